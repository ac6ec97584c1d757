section
-- ===== PART A: goes FIRST, ahead of the names: the tables' words, and 'selects' of the private methods out of them =====
/-- a private method of a class that the tables say can be made, by its rows of tables_1 -/
def lw_okq (q : MethodName × Nat) : Prop := (q.1.cls ≠ "java/lang/invoke/MethodHandle" ∧ q.1.cls ≠ "java/lang/invoke/VarHandle") ∧ Cond.instantiable q.1.cls q.2 ∈ tables_1 ∧ Cond.privateMethod q.1 ∈ tables_1 ∧ Cond.instanceMethod q.1 ∈ tables_1
theorem lw_p0 : lw_okq (⟨"GracefulRestart", "selectAll", "()V"⟩, 9) := ⟨⟨by decide +kernel, by decide +kernel⟩, List.mem_of_getElem? (i := 5) (by decide +kernel), List.mem_of_getElem? (i := 101) (by decide +kernel), List.mem_of_getElem? (i := 102) (by decide +kernel)⟩
theorem lw_p1 : lw_okq (⟨"GracefulRestart", "select", "(I)V"⟩, 9) := ⟨⟨by decide +kernel, by decide +kernel⟩, List.mem_of_getElem? (i := 5) (by decide +kernel), List.mem_of_getElem? (i := 105) (by decide +kernel), List.mem_of_getElem? (i := 106) (by decide +kernel)⟩
theorem lw_p2 : lw_okq (⟨"GracefulRestart$Peer", "knownOffer", "(I)I"⟩, 8) := ⟨⟨by decide +kernel, by decide +kernel⟩, List.mem_of_getElem? (i := 63) (by decide +kernel), List.mem_of_getElem? (i := 109) (by decide +kernel), List.mem_of_getElem? (i := 110) (by decide +kernel)⟩
theorem lw_p3 : lw_okq (⟨"GracefulRestart", "advertise", "(III)V"⟩, 9) := ⟨⟨by decide +kernel, by decide +kernel⟩, List.mem_of_getElem? (i := 5) (by decide +kernel), List.mem_of_getElem? (i := 113) (by decide +kernel), List.mem_of_getElem? (i := 114) (by decide +kernel)⟩
theorem lw_p4 : lw_okq (⟨"GracefulRestart$Peer", "hearNothing", "(I)V"⟩, 8) := ⟨⟨by decide +kernel, by decide +kernel⟩, List.mem_of_getElem? (i := 63) (by decide +kernel), List.mem_of_getElem? (i := 117) (by decide +kernel), List.mem_of_getElem? (i := 118) (by decide +kernel)⟩
theorem lw_p5 : lw_okq (⟨"GracefulRestart$Peer", "learn", "(II)V"⟩, 8) := ⟨⟨by decide +kernel, by decide +kernel⟩, List.mem_of_getElem? (i := 63) (by decide +kernel), List.mem_of_getElem? (i := 121) (by decide +kernel), List.mem_of_getElem? (i := 122) (by decide +kernel)⟩
theorem lw_p6 : lw_okq (⟨"GracefulRestart", "findPeer", "(I)LGracefulRestart$Peer;"⟩, 9) := ⟨⟨by decide +kernel, by decide +kernel⟩, List.mem_of_getElem? (i := 5) (by decide +kernel), List.mem_of_getElem? (i := 129) (by decide +kernel), List.mem_of_getElem? (i := 130) (by decide +kernel)⟩
theorem lw_p7 : lw_okq (⟨"GracefulRestart", "selectAfterOffer", "(LGracefulRestart$Peer;I)V"⟩, 9) := ⟨⟨by decide +kernel, by decide +kernel⟩, List.mem_of_getElem? (i := 5) (by decide +kernel), List.mem_of_getElem? (i := 136) (by decide +kernel), List.mem_of_getElem? (i := 137) (by decide +kernel)⟩
theorem lw_p8 : lw_okq (⟨"GracefulRestart$Peer", "loseRouter", "(I)V"⟩, 8) := ⟨⟨by decide +kernel, by decide +kernel⟩, List.mem_of_getElem? (i := 63) (by decide +kernel), List.mem_of_getElem? (i := 148) (by decide +kernel), List.mem_of_getElem? (i := 149) (by decide +kernel)⟩
theorem lw_p9 : lw_okq (⟨"GracefulRestart$Peer", "goDown", "()I"⟩, 8) := ⟨⟨by decide +kernel, by decide +kernel⟩, List.mem_of_getElem? (i := 63) (by decide +kernel), List.mem_of_getElem? (i := 152) (by decide +kernel), List.mem_of_getElem? (i := 153) (by decide +kernel)⟩
theorem lw_p10 : lw_okq (⟨"GracefulRestart$Peer", "removeLearned", "()I"⟩, 8) := ⟨⟨by decide +kernel, by decide +kernel⟩, List.mem_of_getElem? (i := 63) (by decide +kernel), List.mem_of_getElem? (i := 156) (by decide +kernel), List.mem_of_getElem? (i := 157) (by decide +kernel)⟩
theorem lw_p11 : lw_okq (⟨"GracefulRestart$Peer", "removeStale", "()I"⟩, 8) := ⟨⟨by decide +kernel, by decide +kernel⟩, List.mem_of_getElem? (i := 63) (by decide +kernel), List.mem_of_getElem? (i := 160) (by decide +kernel), List.mem_of_getElem? (i := 161) (by decide +kernel)⟩
theorem lw_p12 : lw_okq (⟨"GracefulRestart", "makeEntriesStale", "()V"⟩, 9) := ⟨⟨by decide +kernel, by decide +kernel⟩, List.mem_of_getElem? (i := 5) (by decide +kernel), List.mem_of_getElem? (i := 164) (by decide +kernel), List.mem_of_getElem? (i := 165) (by decide +kernel)⟩
theorem lw_p13 : lw_okq (⟨"GracefulRestart", "removeEntries", "()V"⟩, 9) := ⟨⟨by decide +kernel, by decide +kernel⟩, List.mem_of_getElem? (i := 5) (by decide +kernel), List.mem_of_getElem? (i := 168) (by decide +kernel), List.mem_of_getElem? (i := 169) (by decide +kernel)⟩
theorem lw_p14 : lw_okq (⟨"GracefulRestart", "checkDeferral", "()V"⟩, 9) := ⟨⟨by decide +kernel, by decide +kernel⟩, List.mem_of_getElem? (i := 5) (by decide +kernel), List.mem_of_getElem? (i := 172) (by decide +kernel), List.mem_of_getElem? (i := 173) (by decide +kernel)⟩
theorem lw_p15 : lw_okq (⟨"GracefulRestart$Peer", "isAwaited", "()Z"⟩, 8) := ⟨⟨by decide +kernel, by decide +kernel⟩, List.mem_of_getElem? (i := 63) (by decide +kernel), List.mem_of_getElem? (i := 180) (by decide +kernel), List.mem_of_getElem? (i := 181) (by decide +kernel)⟩
def lw_privs_1 : List (MethodName × Nat) := [(⟨"GracefulRestart", "selectAll", "()V"⟩, 9), (⟨"GracefulRestart", "select", "(I)V"⟩, 9), (⟨"GracefulRestart$Peer", "knownOffer", "(I)I"⟩, 8), (⟨"GracefulRestart", "advertise", "(III)V"⟩, 9), (⟨"GracefulRestart$Peer", "hearNothing", "(I)V"⟩, 8), (⟨"GracefulRestart$Peer", "learn", "(II)V"⟩, 8), (⟨"GracefulRestart", "findPeer", "(I)LGracefulRestart$Peer;"⟩, 9), (⟨"GracefulRestart", "selectAfterOffer", "(LGracefulRestart$Peer;I)V"⟩, 9), (⟨"GracefulRestart$Peer", "loseRouter", "(I)V"⟩, 8), (⟨"GracefulRestart$Peer", "goDown", "()I"⟩, 8), (⟨"GracefulRestart$Peer", "removeLearned", "()I"⟩, 8), (⟨"GracefulRestart$Peer", "removeStale", "()I"⟩, 8), (⟨"GracefulRestart", "makeEntriesStale", "()V"⟩, 9), (⟨"GracefulRestart", "removeEntries", "()V"⟩, 9), (⟨"GracefulRestart", "checkDeferral", "()V"⟩, 9), (⟨"GracefulRestart$Peer", "isAwaited", "()Z"⟩, 8)]
theorem lw_r1 : ∀ q ∈ lw_privs_1, lw_okq q := List.forall_mem_cons.mpr ⟨lw_p0, List.forall_mem_cons.mpr ⟨lw_p1, List.forall_mem_cons.mpr ⟨lw_p2, List.forall_mem_cons.mpr ⟨lw_p3, List.forall_mem_cons.mpr ⟨lw_p4, List.forall_mem_cons.mpr ⟨lw_p5, List.forall_mem_cons.mpr ⟨lw_p6, List.forall_mem_cons.mpr ⟨lw_p7, List.forall_mem_cons.mpr ⟨lw_p8, List.forall_mem_cons.mpr ⟨lw_p9, List.forall_mem_cons.mpr ⟨lw_p10, List.forall_mem_cons.mpr ⟨lw_p11, List.forall_mem_cons.mpr ⟨lw_p12, List.forall_mem_cons.mpr ⟨lw_p13, List.forall_mem_cons.mpr ⟨lw_p14, List.forall_mem_cons.mpr ⟨lw_p15, fun _ h => absurd h List.not_mem_nil⟩⟩⟩⟩⟩⟩⟩⟩⟩⟩⟩⟩⟩⟩⟩⟩
theorem lw_p16 : lw_okq (⟨"GracefulRestart", "endDeferral", "()V"⟩, 9) := ⟨⟨by decide +kernel, by decide +kernel⟩, List.mem_of_getElem? (i := 5) (by decide +kernel), List.mem_of_getElem? (i := 184) (by decide +kernel), List.mem_of_getElem? (i := 185) (by decide +kernel)⟩
theorem lw_p17 : lw_okq (⟨"GracefulRestart$Peer", "endResync", "()V"⟩, 8) := ⟨⟨by decide +kernel, by decide +kernel⟩, List.mem_of_getElem? (i := 63) (by decide +kernel), List.mem_of_getElem? (i := 188) (by decide +kernel), List.mem_of_getElem? (i := 189) (by decide +kernel)⟩
theorem lw_p18 : lw_okq (⟨"GracefulRestart$Peer", "meetRouter", "(I)V"⟩, 8) := ⟨⟨by decide +kernel, by decide +kernel⟩, List.mem_of_getElem? (i := 63) (by decide +kernel), List.mem_of_getElem? (i := 196) (by decide +kernel), List.mem_of_getElem? (i := 197) (by decide +kernel)⟩
theorem lw_p19 : lw_okq (⟨"GracefulRestart$Peer", "countOffers", "()I"⟩, 8) := ⟨⟨by decide +kernel, by decide +kernel⟩, List.mem_of_getElem? (i := 63) (by decide +kernel), List.mem_of_getElem? (i := 200) (by decide +kernel), List.mem_of_getElem? (i := 201) (by decide +kernel)⟩
theorem lw_p20 : lw_okq (⟨"GracefulRestart", "countDownPeers", "()I"⟩, 9) := ⟨⟨by decide +kernel, by decide +kernel⟩, List.mem_of_getElem? (i := 5) (by decide +kernel), List.mem_of_getElem? (i := 217) (by decide +kernel), List.mem_of_getElem? (i := 218) (by decide +kernel)⟩
theorem lw_p21 : lw_okq (⟨"GracefulRestart$Peer", "countDown", "()I"⟩, 8) := ⟨⟨by decide +kernel, by decide +kernel⟩, List.mem_of_getElem? (i := 63) (by decide +kernel), List.mem_of_getElem? (i := 221) (by decide +kernel), List.mem_of_getElem? (i := 222) (by decide +kernel)⟩
theorem lw_p22 : lw_okq (⟨"GracefulRestart", "followPacket", "(LGracefulRestart$Peer;II)I"⟩, 9) := ⟨⟨by decide +kernel, by decide +kernel⟩, List.mem_of_getElem? (i := 5) (by decide +kernel), List.mem_of_getElem? (i := 266) (by decide +kernel), List.mem_of_getElem? (i := 267) (by decide +kernel)⟩
theorem lw_p23 : lw_okq (⟨"GracefulRestart", "countLoops", "(LGracefulRestart$Peer;I)I"⟩, 9) := ⟨⟨by decide +kernel, by decide +kernel⟩, List.mem_of_getElem? (i := 5) (by decide +kernel), List.mem_of_getElem? (i := 278) (by decide +kernel), List.mem_of_getElem? (i := 279) (by decide +kernel)⟩
theorem lw_p24 : lw_okq (⟨"GracefulRestartModel", "selectsAll", "()V"⟩, 16) := ⟨⟨by decide +kernel, by decide +kernel⟩, List.mem_of_getElem? (i := 282) (by decide +kernel), List.mem_of_getElem? (i := 356) (by decide +kernel), List.mem_of_getElem? (i := 357) (by decide +kernel)⟩
theorem lw_p25 : lw_okq (⟨"GracefulRestartModel", "selects", "(I)V"⟩, 16) := ⟨⟨by decide +kernel, by decide +kernel⟩, List.mem_of_getElem? (i := 282) (by decide +kernel), List.mem_of_getElem? (i := 360) (by decide +kernel), List.mem_of_getElem? (i := 361) (by decide +kernel)⟩
theorem lw_p26 : lw_okq (⟨"GracefulRestartModel", "bestPeer", "(I)I"⟩, 16) := ⟨⟨by decide +kernel, by decide +kernel⟩, List.mem_of_getElem? (i := 282) (by decide +kernel), List.mem_of_getElem? (i := 364) (by decide +kernel), List.mem_of_getElem? (i := 365) (by decide +kernel)⟩
theorem lw_p27 : lw_okq (⟨"GracefulRestartModel", "updates", "(III)V"⟩, 16) := ⟨⟨by decide +kernel, by decide +kernel⟩, List.mem_of_getElem? (i := 282) (by decide +kernel), List.mem_of_getElem? (i := 368) (by decide +kernel), List.mem_of_getElem? (i := 369) (by decide +kernel)⟩
theorem lw_p28 : lw_okq (⟨"GracefulRestartModel", "refused", "(III)I"⟩, 16) := ⟨⟨by decide +kernel, by decide +kernel⟩, List.mem_of_getElem? (i := 282) (by decide +kernel), List.mem_of_getElem? (i := 376) (by decide +kernel), List.mem_of_getElem? (i := 377) (by decide +kernel)⟩
theorem lw_p29 : lw_okq (⟨"GracefulRestartModel", "isPeer", "(I)Z"⟩, 16) := ⟨⟨by decide +kernel, by decide +kernel⟩, List.mem_of_getElem? (i := 282) (by decide +kernel), List.mem_of_getElem? (i := 380) (by decide +kernel), List.mem_of_getElem? (i := 381) (by decide +kernel)⟩
theorem lw_p30 : lw_okq (⟨"GracefulRestartModel", "offers", "(III)V"⟩, 16) := ⟨⟨by decide +kernel, by decide +kernel⟩, List.mem_of_getElem? (i := 282) (by decide +kernel), List.mem_of_getElem? (i := 387) (by decide +kernel), List.mem_of_getElem? (i := 388) (by decide +kernel)⟩
theorem lw_p31 : lw_okq (⟨"GracefulRestartModel", "losesSession", "(I)V"⟩, 16) := ⟨⟨by decide +kernel, by decide +kernel⟩, List.mem_of_getElem? (i := 282) (by decide +kernel), List.mem_of_getElem? (i := 399) (by decide +kernel), List.mem_of_getElem? (i := 400) (by decide +kernel)⟩
def lw_privs_2 : List (MethodName × Nat) := [(⟨"GracefulRestart", "endDeferral", "()V"⟩, 9), (⟨"GracefulRestart$Peer", "endResync", "()V"⟩, 8), (⟨"GracefulRestart$Peer", "meetRouter", "(I)V"⟩, 8), (⟨"GracefulRestart$Peer", "countOffers", "()I"⟩, 8), (⟨"GracefulRestart", "countDownPeers", "()I"⟩, 9), (⟨"GracefulRestart$Peer", "countDown", "()I"⟩, 8), (⟨"GracefulRestart", "followPacket", "(LGracefulRestart$Peer;II)I"⟩, 9), (⟨"GracefulRestart", "countLoops", "(LGracefulRestart$Peer;I)I"⟩, 9), (⟨"GracefulRestartModel", "selectsAll", "()V"⟩, 16), (⟨"GracefulRestartModel", "selects", "(I)V"⟩, 16), (⟨"GracefulRestartModel", "bestPeer", "(I)I"⟩, 16), (⟨"GracefulRestartModel", "updates", "(III)V"⟩, 16), (⟨"GracefulRestartModel", "refused", "(III)I"⟩, 16), (⟨"GracefulRestartModel", "isPeer", "(I)Z"⟩, 16), (⟨"GracefulRestartModel", "offers", "(III)V"⟩, 16), (⟨"GracefulRestartModel", "losesSession", "(I)V"⟩, 16)]
theorem lw_r2 : ∀ q ∈ lw_privs_2, lw_okq q := List.forall_mem_cons.mpr ⟨lw_p16, List.forall_mem_cons.mpr ⟨lw_p17, List.forall_mem_cons.mpr ⟨lw_p18, List.forall_mem_cons.mpr ⟨lw_p19, List.forall_mem_cons.mpr ⟨lw_p20, List.forall_mem_cons.mpr ⟨lw_p21, List.forall_mem_cons.mpr ⟨lw_p22, List.forall_mem_cons.mpr ⟨lw_p23, List.forall_mem_cons.mpr ⟨lw_p24, List.forall_mem_cons.mpr ⟨lw_p25, List.forall_mem_cons.mpr ⟨lw_p26, List.forall_mem_cons.mpr ⟨lw_p27, List.forall_mem_cons.mpr ⟨lw_p28, List.forall_mem_cons.mpr ⟨lw_p29, List.forall_mem_cons.mpr ⟨lw_p30, List.forall_mem_cons.mpr ⟨lw_p31, fun _ h => absurd h List.not_mem_nil⟩⟩⟩⟩⟩⟩⟩⟩⟩⟩⟩⟩⟩⟩⟩⟩
theorem lw_p32 : lw_okq (⟨"GracefulRestartModel", "forgets", "(IZ)I"⟩, 16) := ⟨⟨by decide +kernel, by decide +kernel⟩, List.mem_of_getElem? (i := 282) (by decide +kernel), List.mem_of_getElem? (i := 403) (by decide +kernel), List.mem_of_getElem? (i := 404) (by decide +kernel)⟩
theorem lw_p33 : lw_okq (⟨"GracefulRestartModel", "checksDeferral", "()V"⟩, 16) := ⟨⟨by decide +kernel, by decide +kernel⟩, List.mem_of_getElem? (i := 282) (by decide +kernel), List.mem_of_getElem? (i := 407) (by decide +kernel), List.mem_of_getElem? (i := 408) (by decide +kernel)⟩
theorem lw_p34 : lw_okq (⟨"GracefulRestartModel", "waiting", "()I"⟩, 16) := ⟨⟨by decide +kernel, by decide +kernel⟩, List.mem_of_getElem? (i := 282) (by decide +kernel), List.mem_of_getElem? (i := 411) (by decide +kernel), List.mem_of_getElem? (i := 412) (by decide +kernel)⟩
theorem lw_p35 : lw_okq (⟨"GracefulRestartModel", "known", "(I)I"⟩, 16) := ⟨⟨by decide +kernel, by decide +kernel⟩, List.mem_of_getElem? (i := 282) (by decide +kernel), List.mem_of_getElem? (i := 419) (by decide +kernel), List.mem_of_getElem? (i := 420) (by decide +kernel)⟩
theorem lw_p36 : lw_okq (⟨"GracefulRestartModel", "ages", "(I)I"⟩, 16) := ⟨⟨by decide +kernel, by decide +kernel⟩, List.mem_of_getElem? (i := 282) (by decide +kernel), List.mem_of_getElem? (i := 435) (by decide +kernel), List.mem_of_getElem? (i := 436) (by decide +kernel)⟩
theorem lw_p37 : lw_okq (⟨"GracefulRestartModel", "forwards", "(II)I"⟩, 16) := ⟨⟨by decide +kernel, by decide +kernel⟩, List.mem_of_getElem? (i := 282) (by decide +kernel), List.mem_of_getElem? (i := 483) (by decide +kernel), List.mem_of_getElem? (i := 484) (by decide +kernel)⟩
def lw_privs_3 : List (MethodName × Nat) := [(⟨"GracefulRestartModel", "forgets", "(IZ)I"⟩, 16), (⟨"GracefulRestartModel", "checksDeferral", "()V"⟩, 16), (⟨"GracefulRestartModel", "waiting", "()I"⟩, 16), (⟨"GracefulRestartModel", "known", "(I)I"⟩, 16), (⟨"GracefulRestartModel", "ages", "(I)I"⟩, 16), (⟨"GracefulRestartModel", "forwards", "(II)I"⟩, 16)]
theorem lw_r3 : ∀ q ∈ lw_privs_3, lw_okq q := List.forall_mem_cons.mpr ⟨lw_p32, List.forall_mem_cons.mpr ⟨lw_p33, List.forall_mem_cons.mpr ⟨lw_p34, List.forall_mem_cons.mpr ⟨lw_p35, List.forall_mem_cons.mpr ⟨lw_p36, List.forall_mem_cons.mpr ⟨lw_p37, fun _ h => absurd h List.not_mem_nil⟩⟩⟩⟩⟩⟩
def lw_privs : List (MethodName × Nat) := lw_privs_1 ++ (lw_privs_2 ++ (lw_privs_3))
def lw_tbl : List Cond := k2_sels lw_privs ++ tables_1
theorem lw_privs_ok : ∀ q ∈ lw_privs, lw_okq q := by
  show ∀ q ∈ lw_privs_1 ++ (lw_privs_2 ++ (lw_privs_3)), lw_okq q
  exact List.forall_mem_append.mpr ⟨lw_r1, List.forall_mem_append.mpr ⟨lw_r2, lw_r3⟩⟩
end
section
/-! ===== BEGIN words of one list among another's, by their places ===== -/
theorem goodIn_r {big : List Cond} (ws : List Cond) (ps : List Nat) (hp : ws = ps.filterMap (fun i => big[i]?)) (h : ws.all goodWord = true) : GoodIn big ws := by
  intro w hw
  have h1 := List.all_eq_true.mp h w hw
  rw [hp] at hw
  obtain ⟨i, -, hi⟩ := List.mem_filterMap.mp hw
  have hm : w ∈ big := by first | exact List.mem_of_getElem? hi | exact List.getElem?_mem hi
  exact ⟨hm, good_of_word h1⟩
theorem goodIn_app {big a b : List Cond} (ha : GoodIn big a) (hb : GoodIn big b) : GoodIn big (a ++ b) := fun w h => (List.mem_append.mp h).elim (ha w) (hb w)
theorem goodIn_ca {big a b : List Cond} {c : Cond} (ha : GoodIn big (c :: a)) (hb : GoodIn big b) : GoodIn big (c :: (a ++ b)) := fun w h => (List.mem_cons.mp h).elim (fun e => ha w (List.mem_cons.mpr (Or.inl e))) (fun h => (List.mem_append.mp h).elim (fun h => ha w (List.mem_cons.mpr (Or.inr h))) (hb w))
theorem goodIn_sub {big ws : List Cond} (hm : ∀ w ∈ ws, w ∈ big) (h : ws.all goodWord = true) : GoodIn big ws := fun w hw => ⟨hm w hw, good_of_word (List.all_eq_true.mp h w hw)⟩
/-! ===== END ===== -/

/-! ===== BEGIN printed: names, fields, word lists, decode rows ===== -/
def RX0 : String := "GracefulRestart$Peer"
def TX0 : u_T := fun k => match k with
  | 0 => ("GracefulRestart$Peer", "graceful", "Z", true)
  | 1 => ("GracefulRestart$Peer", "offers", "[I", true)
  | 2 => ("GracefulRestart$Peer", "learned", "[I", true)
  | 3 => ("GracefulRestart$Peer", "staleLearned", "[Z", true)
  | 4 => ("GracefulRestart$Peer", "state", "I", false)
  | 5 => ("GracefulRestart$Peer", "restartLeft", "I", false)
  | 6 => ("GracefulRestart$Peer", "staleLeft", "I", false)
  | _ => ("GracefulRestart$Peer", "marks", "I", false)
def tyX0 : Nat → FieldType := fun k => match k with
  | 0 => .boolean
  | 1 => .array .int
  | 2 => .array .int
  | 3 => .array .boolean
  | 4 => .int
  | 5 => .int
  | 6 => .int
  | _ => .int
abbrev wsX00 : List Cond := u_ws RX0 TX0 8
theorem nmX0 : ∀ a, a < 8 → ∀ b, b < 8 → a ≠ b → (TX0 a).2.1 ≠ (TX0 b).2.1 := by decide +kernel
theorem tyX0_ok : ∀ k, k < 8 → parseFieldDescriptor (TX0 k).2.2.1 = some (tyX0 k) := by decide +kernel
abbrev cX0_init : ByteArray := prog_2_method_1_code
def yX0_init : MethodName := ⟨RX0, "<init>", "(Z)V"⟩
abbrev cX0_knownOffer : ByteArray := prog_2_method_2_code
def yX0_knownOffer : MethodName := ⟨RX0, "knownOffer", "(I)I"⟩
abbrev cX0_countOffers : ByteArray := prog_2_method_3_code
def yX0_countOffers : MethodName := ⟨RX0, "countOffers", "()I"⟩
abbrev cX0_isAwaited : ByteArray := prog_2_method_4_code
def yX0_isAwaited : MethodName := ⟨RX0, "isAwaited", "()Z"⟩
abbrev cX0_learn : ByteArray := prog_2_method_5_code
def yX0_learn : MethodName := ⟨RX0, "learn", "(II)V"⟩
abbrev cX0_hearNothing : ByteArray := prog_2_method_6_code
def yX0_hearNothing : MethodName := ⟨RX0, "hearNothing", "(I)V"⟩
abbrev cX0_loseRouter : ByteArray := prog_2_method_7_code
def yX0_loseRouter : MethodName := ⟨RX0, "loseRouter", "(I)V"⟩
abbrev cX0_meetRouter : ByteArray := prog_2_method_8_code
def yX0_meetRouter : MethodName := ⟨RX0, "meetRouter", "(I)V"⟩
abbrev cX0_endResync : ByteArray := prog_2_method_9_code
def yX0_endResync : MethodName := ⟨RX0, "endResync", "()V"⟩
abbrev cX0_goDown : ByteArray := prog_2_method_10_code
def yX0_goDown : MethodName := ⟨RX0, "goDown", "()I"⟩
abbrev cX0_countDown : ByteArray := prog_2_method_11_code
def yX0_countDown : MethodName := ⟨RX0, "countDown", "()I"⟩
abbrev cX0_removeLearned : ByteArray := prog_2_method_12_code
def yX0_removeLearned : MethodName := ⟨RX0, "removeLearned", "()I"⟩
abbrev cX0_removeStale : ByteArray := prog_2_method_13_code
def yX0_removeStale : MethodName := ⟨RX0, "removeStale", "()I"⟩
def RX1 : String := "GracefulRestart"
def TX1 : u_T := fun k => match k with
  | 0 => ("GracefulRestart", "peers", "[LGracefulRestart$Peer;", true)
  | 1 => ("GracefulRestart", "hops", "[I", true)
  | 2 => ("GracefulRestart", "staleHops", "[Z", true)
  | 3 => ("GracefulRestart", "peerCount", "I", false)
  | 4 => ("GracefulRestart", "restartTime", "I", false)
  | 5 => ("GracefulRestart", "staleTime", "I", false)
  | 6 => ("GracefulRestart", "deferralTime", "I", false)
  | 7 => ("GracefulRestart", "deferring", "Z", false)
  | _ => ("GracefulRestart", "deferralLeft", "I", false)
def tyX1 : Nat → FieldType := fun k => match k with
  | 0 => .array (.object "GracefulRestart$Peer")
  | 1 => .array .int
  | 2 => .array .boolean
  | 3 => .int
  | 4 => .int
  | 5 => .int
  | 6 => .int
  | 7 => .boolean
  | _ => .int
abbrev wsX10 : List Cond := u_ws RX1 TX1 9
theorem nmX1 : ∀ a, a < 9 → ∀ b, b < 9 → a ≠ b → (TX1 a).2.1 ≠ (TX1 b).2.1 := by decide +kernel
theorem tyX1_ok : ∀ k, k < 9 → parseFieldDescriptor (TX1 k).2.2.1 = some (tyX1 k) := by decide +kernel
abbrev cX1_init : ByteArray := prog_1_method_1_code
def yX1_init : MethodName := ⟨RX1, "<init>", "()V"⟩
abbrev cX1_setRestartTime : ByteArray := prog_1_method_2_code
def yX1_setRestartTime : MethodName := ⟨RX1, "setRestartTime", "(I)I"⟩
abbrev cX1_setStaleTime : ByteArray := prog_1_method_3_code
def yX1_setStaleTime : MethodName := ⟨RX1, "setStaleTime", "(I)I"⟩
abbrev cX1_setDeferralTime : ByteArray := prog_1_method_4_code
def yX1_setDeferralTime : MethodName := ⟨RX1, "setDeferralTime", "(I)I"⟩
abbrev cX1_addPeer : ByteArray := prog_1_method_5_code
def yX1_addPeer : MethodName := ⟨RX1, "addPeer", "(Z)I"⟩
abbrev cX1_announce : ByteArray := prog_1_method_6_code
def yX1_announce : MethodName := ⟨RX1, "announce", "(IIII)I"⟩
abbrev cX1_withdraw : ByteArray := prog_1_method_7_code
def yX1_withdraw : MethodName := ⟨RX1, "withdraw", "(III)I"⟩
abbrev cX1_restart : ByteArray := prog_1_method_8_code
def yX1_restart : MethodName := ⟨RX1, "restart", "(Z)I"⟩
abbrev cX1_reconnect : ByteArray := prog_1_method_9_code
def yX1_reconnect : MethodName := ⟨RX1, "reconnect", "(I)I"⟩
abbrev cX1_disconnect : ByteArray := prog_1_method_10_code
def yX1_disconnect : MethodName := ⟨RX1, "disconnect", "(I)I"⟩
abbrev cX1_endOfTable : ByteArray := prog_1_method_11_code
def yX1_endOfTable : MethodName := ⟨RX1, "endOfTable", "(II)I"⟩
abbrev cX1_tick : ByteArray := prog_1_method_12_code
def yX1_tick : MethodName := ⟨RX1, "tick", "(I)I"⟩
abbrev cX1_isDeferring : ByteArray := prog_1_method_13_code
def yX1_isDeferring : MethodName := ⟨RX1, "isDeferring", "()I"⟩
abbrev cX1_deferralTimer : ByteArray := prog_1_method_14_code
def yX1_deferralTimer : MethodName := ⟨RX1, "deferralTimer", "()I"⟩
abbrev cX1_waitingPeers : ByteArray := prog_1_method_15_code
def yX1_waitingPeers : MethodName := ⟨RX1, "waitingPeers", "()I"⟩
abbrev cX1_nextHop : ByteArray := prog_1_method_16_code
def yX1_nextHop : MethodName := ⟨RX1, "nextHop", "(II)I"⟩
abbrev cX1_isEntryStale : ByteArray := prog_1_method_17_code
def yX1_isEntryStale : MethodName := ⟨RX1, "isEntryStale", "(II)I"⟩
abbrev cX1_sessionState : ByteArray := prog_1_method_18_code
def yX1_sessionState : MethodName := ⟨RX1, "sessionState", "(I)I"⟩
abbrev cX1_restartTimer : ByteArray := prog_1_method_19_code
def yX1_restartTimer : MethodName := ⟨RX1, "restartTimer", "(I)I"⟩
abbrev cX1_staleTimer : ByteArray := prog_1_method_20_code
def yX1_staleTimer : MethodName := ⟨RX1, "staleTimer", "(I)I"⟩
abbrev cX1_learnedLength : ByteArray := prog_1_method_21_code
def yX1_learnedLength : MethodName := ⟨RX1, "learnedLength", "(III)I"⟩
abbrev cX1_isLearnedStale : ByteArray := prog_1_method_22_code
def yX1_isLearnedStale : MethodName := ⟨RX1, "isLearnedStale", "(III)I"⟩
abbrev cX1_forward : ByteArray := prog_1_method_23_code
def yX1_forward : MethodName := ⟨RX1, "forward", "(III)I"⟩
abbrev cX1_reachableCount : ByteArray := prog_1_method_24_code
def yX1_reachableCount : MethodName := ⟨RX1, "reachableCount", "(I)I"⟩
abbrev cX1_loopCount : ByteArray := prog_1_method_25_code
def yX1_loopCount : MethodName := ⟨RX1, "loopCount", "()I"⟩
abbrev cX1_isTime : ByteArray := prog_1_method_26_code
def yX1_isTime : MethodName := ⟨RX1, "isTime", "(I)Z"⟩
abbrev cX1_routeOf : ByteArray := prog_1_method_27_code
def yX1_routeOf : MethodName := ⟨RX1, "routeOf", "(II)I"⟩
abbrev cX1_findPeer : ByteArray := prog_1_method_28_code
def yX1_findPeer : MethodName := ⟨RX1, "findPeer", "(I)LGracefulRestart$Peer;"⟩
abbrev cX1_selectAfterOffer : ByteArray := prog_1_method_29_code
def yX1_selectAfterOffer : MethodName := ⟨RX1, "selectAfterOffer", "(LGracefulRestart$Peer;I)V"⟩
abbrev cX1_selectAll : ByteArray := prog_1_method_30_code
def yX1_selectAll : MethodName := ⟨RX1, "selectAll", "()V"⟩
abbrev cX1_select : ByteArray := prog_1_method_31_code
def yX1_select : MethodName := ⟨RX1, "select", "(I)V"⟩
abbrev cX1_advertise : ByteArray := prog_1_method_32_code
def yX1_advertise : MethodName := ⟨RX1, "advertise", "(III)V"⟩
abbrev cX1_makeEntriesStale : ByteArray := prog_1_method_33_code
def yX1_makeEntriesStale : MethodName := ⟨RX1, "makeEntriesStale", "()V"⟩
abbrev cX1_removeEntries : ByteArray := prog_1_method_34_code
def yX1_removeEntries : MethodName := ⟨RX1, "removeEntries", "()V"⟩
abbrev cX1_checkDeferral : ByteArray := prog_1_method_35_code
def yX1_checkDeferral : MethodName := ⟨RX1, "checkDeferral", "()V"⟩
abbrev cX1_endDeferral : ByteArray := prog_1_method_36_code
def yX1_endDeferral : MethodName := ⟨RX1, "endDeferral", "()V"⟩
abbrev cX1_countDownPeers : ByteArray := prog_1_method_37_code
def yX1_countDownPeers : MethodName := ⟨RX1, "countDownPeers", "()I"⟩
abbrev cX1_followPacket : ByteArray := prog_1_method_38_code
def yX1_followPacket : MethodName := ⟨RX1, "followPacket", "(LGracefulRestart$Peer;II)I"⟩
abbrev cX1_countLoops : ByteArray := prog_1_method_39_code
def yX1_countLoops : MethodName := ⟨RX1, "countLoops", "(LGracefulRestart$Peer;I)I"⟩
def RX2 : String := "GracefulRestartModel"
def TX2 : u_T := fun k => match k with
  | 0 => ("GracefulRestartModel", "restartTime", "I", false)
  | 1 => ("GracefulRestartModel", "staleTime", "I", false)
  | 2 => ("GracefulRestartModel", "deferralTime", "I", false)
  | 3 => ("GracefulRestartModel", "peers", "I", false)
  | 4 => ("GracefulRestartModel", "isGraceful", "[Z", true)
  | 5 => ("GracefulRestartModel", "stateOf", "[I", true)
  | 6 => ("GracefulRestartModel", "restartTimerOf", "[I", true)
  | 7 => ("GracefulRestartModel", "staleTimerOf", "[I", true)
  | 8 => ("GracefulRestartModel", "hasMarked", "[Z", true)
  | 9 => ("GracefulRestartModel", "offered", "[I", true)
  | 10 => ("GracefulRestartModel", "learned", "[I", true)
  | 11 => ("GracefulRestartModel", "isStaleAt", "[Z", true)
  | 12 => ("GracefulRestartModel", "hopOf", "[I", true)
  | 13 => ("GracefulRestartModel", "isStaleHop", "[Z", true)
  | 14 => ("GracefulRestartModel", "isDeferringNow", "Z", false)
  | _ => ("GracefulRestartModel", "deferralTimerNow", "I", false)
def tyX2 : Nat → FieldType := fun k => match k with
  | 0 => .int
  | 1 => .int
  | 2 => .int
  | 3 => .int
  | 4 => .array .boolean
  | 5 => .array .int
  | 6 => .array .int
  | 7 => .array .int
  | 8 => .array .boolean
  | 9 => .array .int
  | 10 => .array .int
  | 11 => .array .boolean
  | 12 => .array .int
  | 13 => .array .boolean
  | 14 => .boolean
  | _ => .int
abbrev wsX20 : List Cond := u_ws RX2 TX2 16
theorem nmX2 : ∀ a, a < 16 → ∀ b, b < 16 → a ≠ b → (TX2 a).2.1 ≠ (TX2 b).2.1 := by decide +kernel
theorem tyX2_ok : ∀ k, k < 16 → parseFieldDescriptor (TX2 k).2.2.1 = some (tyX2 k) := by decide +kernel
abbrev cX2_init : ByteArray := prog_4_method_1_code
def yX2_init : MethodName := ⟨RX2, "<init>", "()V"⟩
abbrev cX2_within : ByteArray := prog_4_method_2_code
def yX2_within : MethodName := ⟨RX2, "within", "(III)Z"⟩
abbrev cX2_isRoute : ByteArray := prog_4_method_3_code
def yX2_isRoute : MethodName := ⟨RX2, "isRoute", "(II)Z"⟩
abbrev cX2_setRestartTime : ByteArray := prog_4_method_4_code
def yX2_setRestartTime : MethodName := ⟨RX2, "setRestartTime", "(I)I"⟩
abbrev cX2_setStaleTime : ByteArray := prog_4_method_5_code
def yX2_setStaleTime : MethodName := ⟨RX2, "setStaleTime", "(I)I"⟩
abbrev cX2_setDeferralTime : ByteArray := prog_4_method_6_code
def yX2_setDeferralTime : MethodName := ⟨RX2, "setDeferralTime", "(I)I"⟩
abbrev cX2_isPeer : ByteArray := prog_4_method_7_code
def yX2_isPeer : MethodName := ⟨RX2, "isPeer", "(I)Z"⟩
abbrev cX2_bestPeer : ByteArray := prog_4_method_8_code
def yX2_bestPeer : MethodName := ⟨RX2, "bestPeer", "(I)I"⟩
abbrev cX2_updates : ByteArray := prog_4_method_9_code
def yX2_updates : MethodName := ⟨RX2, "updates", "(III)V"⟩
abbrev cX2_selects : ByteArray := prog_4_method_10_code
def yX2_selects : MethodName := ⟨RX2, "selects", "(I)V"⟩
abbrev cX2_selectsAll : ByteArray := prog_4_method_11_code
def yX2_selectsAll : MethodName := ⟨RX2, "selectsAll", "()V"⟩
abbrev cX2_forgets : ByteArray := prog_4_method_12_code
def yX2_forgets : MethodName := ⟨RX2, "forgets", "(IZ)I"⟩
abbrev cX2_waiting : ByteArray := prog_4_method_13_code
def yX2_waiting : MethodName := ⟨RX2, "waiting", "()I"⟩
abbrev cX2_checksDeferral : ByteArray := prog_4_method_14_code
def yX2_checksDeferral : MethodName := ⟨RX2, "checksDeferral", "()V"⟩
abbrev cX2_addPeer : ByteArray := prog_4_method_15_code
def yX2_addPeer : MethodName := ⟨RX2, "addPeer", "(Z)I"⟩
abbrev cX2_refused : ByteArray := prog_4_method_16_code
def yX2_refused : MethodName := ⟨RX2, "refused", "(III)I"⟩
abbrev cX2_offers : ByteArray := prog_4_method_17_code
def yX2_offers : MethodName := ⟨RX2, "offers", "(III)V"⟩
abbrev cX2_announce : ByteArray := prog_4_method_18_code
def yX2_announce : MethodName := ⟨RX2, "announce", "(IIII)I"⟩
abbrev cX2_withdraw : ByteArray := prog_4_method_19_code
def yX2_withdraw : MethodName := ⟨RX2, "withdraw", "(III)I"⟩
abbrev cX2_losesSession : ByteArray := prog_4_method_20_code
def yX2_losesSession : MethodName := ⟨RX2, "losesSession", "(I)V"⟩
abbrev cX2_restart : ByteArray := prog_4_method_21_code
def yX2_restart : MethodName := ⟨RX2, "restart", "(Z)I"⟩
abbrev cX2_known : ByteArray := prog_4_method_22_code
def yX2_known : MethodName := ⟨RX2, "known", "(I)I"⟩
abbrev cX2_reconnect : ByteArray := prog_4_method_23_code
def yX2_reconnect : MethodName := ⟨RX2, "reconnect", "(I)I"⟩
abbrev cX2_disconnect : ByteArray := prog_4_method_24_code
def yX2_disconnect : MethodName := ⟨RX2, "disconnect", "(I)I"⟩
abbrev cX2_endOfTable : ByteArray := prog_4_method_25_code
def yX2_endOfTable : MethodName := ⟨RX2, "endOfTable", "(II)I"⟩
abbrev cX2_ages : ByteArray := prog_4_method_26_code
def yX2_ages : MethodName := ⟨RX2, "ages", "(I)I"⟩
abbrev cX2_tick : ByteArray := prog_4_method_27_code
def yX2_tick : MethodName := ⟨RX2, "tick", "(I)I"⟩
abbrev cX2_isDeferring : ByteArray := prog_4_method_28_code
def yX2_isDeferring : MethodName := ⟨RX2, "isDeferring", "()I"⟩
abbrev cX2_deferralTimer : ByteArray := prog_4_method_29_code
def yX2_deferralTimer : MethodName := ⟨RX2, "deferralTimer", "()I"⟩
abbrev cX2_waitingPeers : ByteArray := prog_4_method_30_code
def yX2_waitingPeers : MethodName := ⟨RX2, "waitingPeers", "()I"⟩
abbrev cX2_nextHop : ByteArray := prog_4_method_31_code
def yX2_nextHop : MethodName := ⟨RX2, "nextHop", "(II)I"⟩
abbrev cX2_isEntryStale : ByteArray := prog_4_method_32_code
def yX2_isEntryStale : MethodName := ⟨RX2, "isEntryStale", "(II)I"⟩
abbrev cX2_sessionState : ByteArray := prog_4_method_33_code
def yX2_sessionState : MethodName := ⟨RX2, "sessionState", "(I)I"⟩
abbrev cX2_restartTimer : ByteArray := prog_4_method_34_code
def yX2_restartTimer : MethodName := ⟨RX2, "restartTimer", "(I)I"⟩
abbrev cX2_staleTimer : ByteArray := prog_4_method_35_code
def yX2_staleTimer : MethodName := ⟨RX2, "staleTimer", "(I)I"⟩
abbrev cX2_learnedLength : ByteArray := prog_4_method_36_code
def yX2_learnedLength : MethodName := ⟨RX2, "learnedLength", "(III)I"⟩
abbrev cX2_isLearnedStale : ByteArray := prog_4_method_37_code
def yX2_isLearnedStale : MethodName := ⟨RX2, "isLearnedStale", "(III)I"⟩
abbrev cX2_forwards : ByteArray := prog_4_method_38_code
def yX2_forwards : MethodName := ⟨RX2, "forwards", "(II)I"⟩
abbrev cX2_forward : ByteArray := prog_4_method_39_code
def yX2_forward : MethodName := ⟨RX2, "forward", "(III)I"⟩
abbrev cX2_reachableCount : ByteArray := prog_4_method_40_code
def yX2_reachableCount : MethodName := ⟨RX2, "reachableCount", "(I)I"⟩
abbrev cX2_loopCount : ByteArray := prog_4_method_41_code
def yX2_loopCount : MethodName := ⟨RX2, "loopCount", "()I"⟩
def RL : String := "GracefulRestartLaw"
abbrev cL_law : ByteArray := code
def yL_law : MethodName := ⟨RL, "law", "([I)Z"⟩
def wsX0_init : List Cond := .code yX0_init cX0_init 2 none :: ([.methodLink RX0 3 objectInit, .instanceMethod objectInit, .code objectInit ⟨#[0xb1]⟩ 1 none, .fieldLink RX0 9 "GracefulRestart$Peer" "graceful" "Z", .arrayClass .int, .fieldLink RX0 15 "GracefulRestart$Peer" "offers" "[I", .fieldLink RX0 19 "GracefulRestart$Peer" "learned" "[I", .arrayClass .boolean, .fieldLink RX0 22 "GracefulRestart$Peer" "staleLearned" "[Z", .fieldLink RX0 26 "GracefulRestart$Peer" "state" "I", .fieldLink RX0 30 "GracefulRestart$Peer" "restartLeft" "I", .fieldLink RX0 33 "GracefulRestart$Peer" "staleLeft" "I", .fieldLink RX0 36 "GracefulRestart$Peer" "marks" "I"] ++ wsX00)
def wsX0_knownOffer : List Cond := .code yX0_knownOffer cX0_knownOffer 2 (some .int) :: ([.fieldLink RX0 26 "GracefulRestart$Peer" "state" "I", .fieldLink RX0 15 "GracefulRestart$Peer" "offers" "[I"] ++ wsX00)
def wsX0_countOffers : List Cond := .code yX0_countOffers cX0_countOffers 6 (some .int) :: ([.fieldLink RX0 15 "GracefulRestart$Peer" "offers" "[I"] ++ wsX00)
def wsX0_isAwaited : List Cond := .code yX0_isAwaited cX0_isAwaited 1 (some .boolean) :: ([.fieldLink RX0 9 "GracefulRestart$Peer" "graceful" "Z", .fieldLink RX0 26 "GracefulRestart$Peer" "state" "I", .fieldLink RX0 36 "GracefulRestart$Peer" "marks" "I"] ++ wsX00)
def wsX0_learn : List Cond := .code yX0_learn cX0_learn 3 none :: ([.fieldLink RX0 19 "GracefulRestart$Peer" "learned" "[I", .fieldLink RX0 22 "GracefulRestart$Peer" "staleLearned" "[Z"] ++ wsX00)
def wsX0_hearNothing : List Cond := .code yX0_hearNothing cX0_hearNothing 2 none :: ([.fieldLink RX0 22 "GracefulRestart$Peer" "staleLearned" "[Z", .fieldLink RX0 19 "GracefulRestart$Peer" "learned" "[I"] ++ wsX00)
def wsX0_removeLearned : List Cond := .code yX0_removeLearned cX0_removeLearned 3 (some .int) :: ([.fieldLink RX0 19 "GracefulRestart$Peer" "learned" "[I", .fieldLink RX0 22 "GracefulRestart$Peer" "staleLearned" "[Z"] ++ wsX00)
def wsX0_goDown : List Cond := .code yX0_goDown cX0_goDown 1 (some .int) :: ([.fieldLink RX0 26 "GracefulRestart$Peer" "state" "I", .fieldLink RX0 30 "GracefulRestart$Peer" "restartLeft" "I", .fieldLink RX0 33 "GracefulRestart$Peer" "staleLeft" "I", .methodLink RX0 46 yX0_removeLearned, .instanceMethod yX0_removeLearned, .selects RX0 yX0_removeLearned yX0_removeLearned, .initialized RX0, .code yX0_removeLearned cX0_removeLearned 3 (some .int), .fieldLink RX0 19 "GracefulRestart$Peer" "learned" "[I", .fieldLink RX0 22 "GracefulRestart$Peer" "staleLearned" "[Z"] ++ wsX00)
def wsX0_removeStale : List Cond := .code yX0_removeStale cX0_removeStale 3 (some .int) :: ([.fieldLink RX0 22 "GracefulRestart$Peer" "staleLearned" "[Z", .fieldLink RX0 19 "GracefulRestart$Peer" "learned" "[I"] ++ wsX00)
def wsX0_loseRouter : List Cond := .code yX0_loseRouter cX0_loseRouter 3 none :: ([.fieldLink RX0 9 "GracefulRestart$Peer" "graceful" "Z", .fieldLink RX0 26 "GracefulRestart$Peer" "state" "I", .fieldLink RX0 22 "GracefulRestart$Peer" "staleLearned" "[Z", .fieldLink RX0 19 "GracefulRestart$Peer" "learned" "[I", .fieldLink RX0 33 "GracefulRestart$Peer" "staleLeft" "I", .fieldLink RX0 30 "GracefulRestart$Peer" "restartLeft" "I", .methodLink RX0 39 yX0_goDown, .instanceMethod yX0_goDown, .selects RX0 yX0_goDown yX0_goDown, .initialized RX0, .code yX0_goDown cX0_goDown 1 (some .int), .methodLink RX0 46 yX0_removeLearned, .instanceMethod yX0_removeLearned, .selects RX0 yX0_removeLearned yX0_removeLearned, .code yX0_removeLearned cX0_removeLearned 3 (some .int), .methodLink RX0 43 yX0_removeStale, .instanceMethod yX0_removeStale, .selects RX0 yX0_removeStale yX0_removeStale, .code yX0_removeStale cX0_removeStale 3 (some .int)] ++ wsX00)
def wsX0_meetRouter : List Cond := .code yX0_meetRouter cX0_meetRouter 2 none :: ([.fieldLink RX0 26 "GracefulRestart$Peer" "state" "I", .fieldLink RX0 30 "GracefulRestart$Peer" "restartLeft" "I", .fieldLink RX0 33 "GracefulRestart$Peer" "staleLeft" "I"] ++ wsX00)
def wsX0_endResync : List Cond := .code yX0_endResync cX0_endResync 1 none :: ([.fieldLink RX0 33 "GracefulRestart$Peer" "staleLeft" "I", .methodLink RX0 43 yX0_removeStale, .instanceMethod yX0_removeStale, .selects RX0 yX0_removeStale yX0_removeStale, .initialized RX0, .code yX0_removeStale cX0_removeStale 3 (some .int), .fieldLink RX0 22 "GracefulRestart$Peer" "staleLearned" "[Z", .fieldLink RX0 19 "GracefulRestart$Peer" "learned" "[I"] ++ wsX00)
def wsX0_countDown : List Cond := .code yX0_countDown cX0_countDown 2 (some .int) :: ([.fieldLink RX0 30 "GracefulRestart$Peer" "restartLeft" "I", .fieldLink RX0 33 "GracefulRestart$Peer" "staleLeft" "I", .methodLink RX0 39 yX0_goDown, .instanceMethod yX0_goDown, .selects RX0 yX0_goDown yX0_goDown, .initialized RX0, .code yX0_goDown cX0_goDown 1 (some .int), .fieldLink RX0 26 "GracefulRestart$Peer" "state" "I", .methodLink RX0 46 yX0_removeLearned, .instanceMethod yX0_removeLearned, .selects RX0 yX0_removeLearned yX0_removeLearned, .code yX0_removeLearned cX0_removeLearned 3 (some .int), .fieldLink RX0 19 "GracefulRestart$Peer" "learned" "[I", .fieldLink RX0 22 "GracefulRestart$Peer" "staleLearned" "[Z", .methodLink RX0 43 yX0_removeStale, .instanceMethod yX0_removeStale, .selects RX0 yX0_removeStale yX0_removeStale, .code yX0_removeStale cX0_removeStale 3 (some .int)] ++ wsX00)
def wsX1_init : List Cond := .code yX1_init cX1_init 2 none :: ([.methodLink RX1 3 objectInit, .instanceMethod objectInit, .code objectInit ⟨#[0xb1]⟩ 1 none, .classLink RX1 9 RX0, .fieldLink RX1 11 "GracefulRestart" "peers" "[LGracefulRestart$Peer;", .arrayClass .int, .fieldLink RX1 15 "GracefulRestart" "hops" "[I", .arrayClass .boolean, .fieldLink RX1 19 "GracefulRestart" "staleHops" "[Z", .fieldLink RX1 23 "GracefulRestart" "peerCount" "I", .fieldLink RX1 27 "GracefulRestart" "restartTime" "I", .fieldLink RX1 30 "GracefulRestart" "staleTime" "I", .fieldLink RX1 33 "GracefulRestart" "deferralTime" "I", .fieldLink RX1 36 "GracefulRestart" "deferring" "Z", .fieldLink RX1 40 "GracefulRestart" "deferralLeft" "I"] ++ wsX10)
def wsX1_isTime : List Cond := .code yX1_isTime cX1_isTime 1 (some .boolean) :: ([])
def wsX1_setRestartTime : List Cond := .code yX1_setRestartTime cX1_setRestartTime 3 (some .int) :: ([.fieldLink RX1 27 "GracefulRestart" "restartTime" "I", .methodLink RX1 43 yX1_isTime, .static yX1_isTime, .initialized RX1, .code yX1_isTime cX1_isTime 1 (some .boolean)] ++ wsX10)
def wsX1_setStaleTime : List Cond := .code yX1_setStaleTime cX1_setStaleTime 3 (some .int) :: ([.fieldLink RX1 30 "GracefulRestart" "staleTime" "I", .methodLink RX1 43 yX1_isTime, .static yX1_isTime, .initialized RX1, .code yX1_isTime cX1_isTime 1 (some .boolean)] ++ wsX10)
def wsX1_setDeferralTime : List Cond := .code yX1_setDeferralTime cX1_setDeferralTime 3 (some .int) :: ([.fieldLink RX1 33 "GracefulRestart" "deferralTime" "I", .methodLink RX1 43 yX1_isTime, .static yX1_isTime, .initialized RX1, .code yX1_isTime cX1_isTime 1 (some .boolean)] ++ wsX10)
def wsX1_advertise : List Cond := .code yX1_advertise cX1_advertise 6 none :: ([.fieldLink RX1 11 "GracefulRestart" "peers" "[LGracefulRestart$Peer;", .instanceMethod yX0_hearNothing, .initialized RX0, .selects RX0 yX0_hearNothing yX0_hearNothing, .code yX0_hearNothing cX0_hearNothing 2 none, .fieldLink RX0 22 "GracefulRestart$Peer" "staleLearned" "[Z", .fieldLink RX0 19 "GracefulRestart$Peer" "learned" "[I", .instanceMethod yX0_learn, .selects RX0 yX0_learn yX0_learn, .code yX0_learn cX0_learn 3 none] ++ wsX10 ++ wsX00)
def wsX1_select : List Cond := .code yX1_select cX1_select 7 none :: ([.fieldLink RX1 11 "GracefulRestart" "peers" "[LGracefulRestart$Peer;", .fieldLink RX1 15 "GracefulRestart" "hops" "[I", .fieldLink RX1 19 "GracefulRestart" "staleHops" "[Z", .instanceMethod yX0_knownOffer, .initialized RX0, .selects RX0 yX0_knownOffer yX0_knownOffer, .code yX0_knownOffer cX0_knownOffer 2 (some .int), .fieldLink RX0 26 "GracefulRestart$Peer" "state" "I", .fieldLink RX0 15 "GracefulRestart$Peer" "offers" "[I", .methodLink RX1 134 yX1_advertise, .instanceMethod yX1_advertise, .selects RX1 yX1_advertise yX1_advertise, .initialized RX1, .code yX1_advertise cX1_advertise 6 none, .instanceMethod yX0_hearNothing, .selects RX0 yX0_hearNothing yX0_hearNothing, .code yX0_hearNothing cX0_hearNothing 2 none, .fieldLink RX0 22 "GracefulRestart$Peer" "staleLearned" "[Z", .fieldLink RX0 19 "GracefulRestart$Peer" "learned" "[I", .instanceMethod yX0_learn, .selects RX0 yX0_learn yX0_learn, .code yX0_learn cX0_learn 3 none] ++ wsX10 ++ wsX00)
def wsX1_selectAll_r1 : List Cond := [Cond.methodLink RX1 127 yX1_select, Cond.instanceMethod yX1_select, Cond.selects RX1 yX1_select yX1_select, Cond.initialized RX1, Cond.code yX1_select cX1_select 7 none, Cond.fieldLink RX1 11 "GracefulRestart" "peers" "[LGracefulRestart$Peer;", Cond.fieldLink RX1 15 "GracefulRestart" "hops" "[I", Cond.fieldLink RX1 19 "GracefulRestart" "staleHops" "[Z", Cond.instanceMethod yX0_knownOffer, Cond.initialized RX0, Cond.selects RX0 yX0_knownOffer yX0_knownOffer, Cond.code yX0_knownOffer cX0_knownOffer 2 (some .int), Cond.fieldLink RX0 26 "GracefulRestart$Peer" "state" "I", Cond.fieldLink RX0 15 "GracefulRestart$Peer" "offers" "[I", Cond.methodLink RX1 134 yX1_advertise, Cond.instanceMethod yX1_advertise, Cond.selects RX1 yX1_advertise yX1_advertise, Cond.code yX1_advertise cX1_advertise 6 none, Cond.instanceMethod yX0_hearNothing, Cond.selects RX0 yX0_hearNothing yX0_hearNothing, Cond.code yX0_hearNothing cX0_hearNothing 2 none, Cond.fieldLink RX0 22 "GracefulRestart$Peer" "staleLearned" "[Z", Cond.fieldLink RX0 19 "GracefulRestart$Peer" "learned" "[I", Cond.instanceMethod yX0_learn]
def wsX1_selectAll_r2 : List Cond := [Cond.selects RX0 yX0_learn yX0_learn, Cond.code yX0_learn cX0_learn 3 none]
def wsX1_selectAll : List Cond := .code yX1_selectAll cX1_selectAll 2 none :: ((wsX1_selectAll_r1 ++ wsX1_selectAll_r2) ++ wsX10 ++ wsX00)
def wsX1_addPeer_r1 : List Cond := [Cond.fieldLink RX1 23 "GracefulRestart" "peerCount" "I", Cond.fieldLink RX1 11 "GracefulRestart" "peers" "[LGracefulRestart$Peer;", Cond.classLink RX1 9 RX0, Cond.instantiable RX0 8, Cond.initialized RX0, Cond.fieldLink RX1 36 "GracefulRestart" "deferring" "Z", Cond.instanceMethod yX0_init, Cond.code yX0_init cX0_init 2 none, Cond.methodLink RX0 3 objectInit, Cond.instanceMethod objectInit, Cond.code objectInit ⟨#[0xb1]⟩ 1 none, Cond.fieldLink RX0 9 "GracefulRestart$Peer" "graceful" "Z", Cond.arrayClass .int, Cond.fieldLink RX0 15 "GracefulRestart$Peer" "offers" "[I", Cond.fieldLink RX0 19 "GracefulRestart$Peer" "learned" "[I", Cond.arrayClass .boolean, Cond.fieldLink RX0 22 "GracefulRestart$Peer" "staleLearned" "[Z", Cond.fieldLink RX0 26 "GracefulRestart$Peer" "state" "I", Cond.fieldLink RX0 30 "GracefulRestart$Peer" "restartLeft" "I", Cond.fieldLink RX0 33 "GracefulRestart$Peer" "staleLeft" "I", Cond.fieldLink RX0 36 "GracefulRestart$Peer" "marks" "I", Cond.methodLink RX1 50 yX1_selectAll, Cond.instanceMethod yX1_selectAll, Cond.selects RX1 yX1_selectAll yX1_selectAll]
def wsX1_addPeer_r2 : List Cond := [Cond.initialized RX1, Cond.code yX1_selectAll cX1_selectAll 2 none, Cond.methodLink RX1 127 yX1_select, Cond.instanceMethod yX1_select, Cond.selects RX1 yX1_select yX1_select, Cond.code yX1_select cX1_select 7 none, Cond.fieldLink RX1 15 "GracefulRestart" "hops" "[I", Cond.fieldLink RX1 19 "GracefulRestart" "staleHops" "[Z", Cond.instanceMethod yX0_knownOffer, Cond.selects RX0 yX0_knownOffer yX0_knownOffer, Cond.code yX0_knownOffer cX0_knownOffer 2 (some .int), Cond.methodLink RX1 134 yX1_advertise, Cond.instanceMethod yX1_advertise, Cond.selects RX1 yX1_advertise yX1_advertise, Cond.code yX1_advertise cX1_advertise 6 none, Cond.instanceMethod yX0_hearNothing, Cond.selects RX0 yX0_hearNothing yX0_hearNothing, Cond.code yX0_hearNothing cX0_hearNothing 2 none, Cond.instanceMethod yX0_learn, Cond.selects RX0 yX0_learn yX0_learn, Cond.code yX0_learn cX0_learn 3 none]
def wsX1_addPeer : List Cond := .code yX1_addPeer cX1_addPeer 3 (some .int) :: ((wsX1_addPeer_r1 ++ wsX1_addPeer_r2) ++ wsX10 ++ wsX00)
def wsX1_findPeer : List Cond := .code yX1_findPeer cX1_findPeer 2 (some (.object "GracefulRestart$Peer")) :: ([.fieldLink RX1 11 "GracefulRestart" "peers" "[LGracefulRestart$Peer;"] ++ wsX10)
def wsX1_routeOf : List Cond := .code yX1_routeOf cX1_routeOf 2 (some .int) :: ([])
def wsX1_selectAfterOffer_r1 : List Cond := [Cond.fieldLink RX1 36 "GracefulRestart" "deferring" "Z", Cond.methodLink RX1 127 yX1_select, Cond.instanceMethod yX1_select, Cond.selects RX1 yX1_select yX1_select, Cond.initialized RX1, Cond.code yX1_select cX1_select 7 none, Cond.fieldLink RX1 11 "GracefulRestart" "peers" "[LGracefulRestart$Peer;", Cond.fieldLink RX1 15 "GracefulRestart" "hops" "[I", Cond.fieldLink RX1 19 "GracefulRestart" "staleHops" "[Z", Cond.instanceMethod yX0_knownOffer, Cond.initialized RX0, Cond.selects RX0 yX0_knownOffer yX0_knownOffer, Cond.code yX0_knownOffer cX0_knownOffer 2 (some .int), Cond.fieldLink RX0 26 "GracefulRestart$Peer" "state" "I", Cond.fieldLink RX0 15 "GracefulRestart$Peer" "offers" "[I", Cond.methodLink RX1 134 yX1_advertise, Cond.instanceMethod yX1_advertise, Cond.selects RX1 yX1_advertise yX1_advertise, Cond.code yX1_advertise cX1_advertise 6 none, Cond.instanceMethod yX0_hearNothing, Cond.selects RX0 yX0_hearNothing yX0_hearNothing, Cond.code yX0_hearNothing cX0_hearNothing 2 none, Cond.fieldLink RX0 22 "GracefulRestart$Peer" "staleLearned" "[Z", Cond.fieldLink RX0 19 "GracefulRestart$Peer" "learned" "[I"]
def wsX1_selectAfterOffer_r2 : List Cond := [Cond.instanceMethod yX0_learn, Cond.selects RX0 yX0_learn yX0_learn, Cond.code yX0_learn cX0_learn 3 none]
def wsX1_selectAfterOffer : List Cond := .code yX1_selectAfterOffer cX1_selectAfterOffer 3 none :: ((wsX1_selectAfterOffer_r1 ++ wsX1_selectAfterOffer_r2) ++ wsX10 ++ wsX00)
def wsX1_announce_r1 : List Cond := [Cond.methodLink RX1 53 yX1_findPeer, Cond.instanceMethod yX1_findPeer, Cond.selects RX1 yX1_findPeer yX1_findPeer, Cond.initialized RX1, Cond.code yX1_findPeer cX1_findPeer 2 (some (.object "GracefulRestart$Peer")), Cond.fieldLink RX1 11 "GracefulRestart" "peers" "[LGracefulRestart$Peer;", Cond.methodLink RX1 57 yX1_routeOf, Cond.static yX1_routeOf, Cond.code yX1_routeOf cX1_routeOf 2 (some .int), Cond.methodLink RX1 64 yX1_selectAfterOffer, Cond.instanceMethod yX1_selectAfterOffer, Cond.selects RX1 yX1_selectAfterOffer yX1_selectAfterOffer, Cond.code yX1_selectAfterOffer cX1_selectAfterOffer 3 none, Cond.fieldLink RX1 36 "GracefulRestart" "deferring" "Z", Cond.methodLink RX1 127 yX1_select, Cond.instanceMethod yX1_select, Cond.selects RX1 yX1_select yX1_select, Cond.code yX1_select cX1_select 7 none, Cond.fieldLink RX1 15 "GracefulRestart" "hops" "[I", Cond.fieldLink RX1 19 "GracefulRestart" "staleHops" "[Z", Cond.instanceMethod yX0_knownOffer, Cond.initialized RX0, Cond.selects RX0 yX0_knownOffer yX0_knownOffer, Cond.code yX0_knownOffer cX0_knownOffer 2 (some .int)]
def wsX1_announce_r2 : List Cond := [Cond.fieldLink RX0 26 "GracefulRestart$Peer" "state" "I", Cond.fieldLink RX0 15 "GracefulRestart$Peer" "offers" "[I", Cond.methodLink RX1 134 yX1_advertise, Cond.instanceMethod yX1_advertise, Cond.selects RX1 yX1_advertise yX1_advertise, Cond.code yX1_advertise cX1_advertise 6 none, Cond.instanceMethod yX0_hearNothing, Cond.selects RX0 yX0_hearNothing yX0_hearNothing, Cond.code yX0_hearNothing cX0_hearNothing 2 none, Cond.fieldLink RX0 22 "GracefulRestart$Peer" "staleLearned" "[Z", Cond.fieldLink RX0 19 "GracefulRestart$Peer" "learned" "[I", Cond.instanceMethod yX0_learn, Cond.selects RX0 yX0_learn yX0_learn, Cond.code yX0_learn cX0_learn 3 none]
def wsX1_announce : List Cond := .code yX1_announce cX1_announce 8 (some .int) :: ((wsX1_announce_r1 ++ wsX1_announce_r2) ++ wsX00 ++ wsX10)
def wsX1_withdraw_r1 : List Cond := [Cond.methodLink RX1 53 yX1_findPeer, Cond.instanceMethod yX1_findPeer, Cond.selects RX1 yX1_findPeer yX1_findPeer, Cond.initialized RX1, Cond.code yX1_findPeer cX1_findPeer 2 (some (.object "GracefulRestart$Peer")), Cond.fieldLink RX1 11 "GracefulRestart" "peers" "[LGracefulRestart$Peer;", Cond.methodLink RX1 57 yX1_routeOf, Cond.static yX1_routeOf, Cond.code yX1_routeOf cX1_routeOf 2 (some .int), Cond.methodLink RX1 64 yX1_selectAfterOffer, Cond.instanceMethod yX1_selectAfterOffer, Cond.selects RX1 yX1_selectAfterOffer yX1_selectAfterOffer, Cond.code yX1_selectAfterOffer cX1_selectAfterOffer 3 none, Cond.fieldLink RX1 36 "GracefulRestart" "deferring" "Z", Cond.methodLink RX1 127 yX1_select, Cond.instanceMethod yX1_select, Cond.selects RX1 yX1_select yX1_select, Cond.code yX1_select cX1_select 7 none, Cond.fieldLink RX1 15 "GracefulRestart" "hops" "[I", Cond.fieldLink RX1 19 "GracefulRestart" "staleHops" "[Z", Cond.instanceMethod yX0_knownOffer, Cond.initialized RX0, Cond.selects RX0 yX0_knownOffer yX0_knownOffer, Cond.code yX0_knownOffer cX0_knownOffer 2 (some .int)]
def wsX1_withdraw_r2 : List Cond := [Cond.fieldLink RX0 26 "GracefulRestart$Peer" "state" "I", Cond.fieldLink RX0 15 "GracefulRestart$Peer" "offers" "[I", Cond.methodLink RX1 134 yX1_advertise, Cond.instanceMethod yX1_advertise, Cond.selects RX1 yX1_advertise yX1_advertise, Cond.code yX1_advertise cX1_advertise 6 none, Cond.instanceMethod yX0_hearNothing, Cond.selects RX0 yX0_hearNothing yX0_hearNothing, Cond.code yX0_hearNothing cX0_hearNothing 2 none, Cond.fieldLink RX0 22 "GracefulRestart$Peer" "staleLearned" "[Z", Cond.fieldLink RX0 19 "GracefulRestart$Peer" "learned" "[I", Cond.instanceMethod yX0_learn, Cond.selects RX0 yX0_learn yX0_learn, Cond.code yX0_learn cX0_learn 3 none]
def wsX1_withdraw : List Cond := .code yX1_withdraw cX1_withdraw 7 (some .int) :: ((wsX1_withdraw_r1 ++ wsX1_withdraw_r2) ++ wsX00 ++ wsX10)
def wsX1_makeEntriesStale : List Cond := .code yX1_makeEntriesStale cX1_makeEntriesStale 2 none :: ([.fieldLink RX1 19 "GracefulRestart" "staleHops" "[Z"] ++ wsX10)
def wsX1_removeEntries : List Cond := .code yX1_removeEntries cX1_removeEntries 2 none :: ([.fieldLink RX1 15 "GracefulRestart" "hops" "[I"] ++ wsX10)
def wsX1_waitingPeers : List Cond := .code yX1_waitingPeers cX1_waitingPeers 4 (some .int) :: ([.fieldLink RX1 36 "GracefulRestart" "deferring" "Z", .fieldLink RX1 11 "GracefulRestart" "peers" "[LGracefulRestart$Peer;", .instanceMethod yX0_isAwaited, .initialized RX0, .selects RX0 yX0_isAwaited yX0_isAwaited, .code yX0_isAwaited cX0_isAwaited 1 (some .boolean), .fieldLink RX0 9 "GracefulRestart$Peer" "graceful" "Z", .fieldLink RX0 26 "GracefulRestart$Peer" "state" "I", .fieldLink RX0 36 "GracefulRestart$Peer" "marks" "I"] ++ wsX10 ++ wsX00)
def wsX1_endDeferral_r1 : List Cond := [Cond.fieldLink RX1 36 "GracefulRestart" "deferring" "Z", Cond.fieldLink RX1 40 "GracefulRestart" "deferralLeft" "I", Cond.fieldLink RX1 11 "GracefulRestart" "peers" "[LGracefulRestart$Peer;", Cond.methodLink RX1 50 yX1_selectAll, Cond.instanceMethod yX1_selectAll, Cond.selects RX1 yX1_selectAll yX1_selectAll, Cond.initialized RX1, Cond.code yX1_selectAll cX1_selectAll 2 none, Cond.methodLink RX1 127 yX1_select, Cond.instanceMethod yX1_select, Cond.selects RX1 yX1_select yX1_select, Cond.code yX1_select cX1_select 7 none, Cond.fieldLink RX1 15 "GracefulRestart" "hops" "[I", Cond.fieldLink RX1 19 "GracefulRestart" "staleHops" "[Z", Cond.instanceMethod yX0_knownOffer, Cond.initialized RX0, Cond.selects RX0 yX0_knownOffer yX0_knownOffer, Cond.code yX0_knownOffer cX0_knownOffer 2 (some .int), Cond.fieldLink RX0 26 "GracefulRestart$Peer" "state" "I", Cond.fieldLink RX0 15 "GracefulRestart$Peer" "offers" "[I", Cond.methodLink RX1 134 yX1_advertise, Cond.instanceMethod yX1_advertise, Cond.selects RX1 yX1_advertise yX1_advertise, Cond.code yX1_advertise cX1_advertise 6 none]
def wsX1_endDeferral_r2 : List Cond := [Cond.instanceMethod yX0_hearNothing, Cond.selects RX0 yX0_hearNothing yX0_hearNothing, Cond.code yX0_hearNothing cX0_hearNothing 2 none, Cond.fieldLink RX0 22 "GracefulRestart$Peer" "staleLearned" "[Z", Cond.fieldLink RX0 19 "GracefulRestart$Peer" "learned" "[I", Cond.instanceMethod yX0_learn, Cond.selects RX0 yX0_learn yX0_learn, Cond.code yX0_learn cX0_learn 3 none, Cond.instanceMethod yX0_endResync, Cond.selects RX0 yX0_endResync yX0_endResync, Cond.code yX0_endResync cX0_endResync 1 none, Cond.fieldLink RX0 33 "GracefulRestart$Peer" "staleLeft" "I", Cond.methodLink RX0 43 yX0_removeStale, Cond.instanceMethod yX0_removeStale, Cond.selects RX0 yX0_removeStale yX0_removeStale, Cond.code yX0_removeStale cX0_removeStale 3 (some .int)]
def wsX1_endDeferral : List Cond := .code yX1_endDeferral cX1_endDeferral 5 none :: ((wsX1_endDeferral_r1 ++ wsX1_endDeferral_r2) ++ wsX10 ++ wsX00)
def wsX1_checkDeferral_r1 : List Cond := [Cond.fieldLink RX1 36 "GracefulRestart" "deferring" "Z", Cond.fieldLink RX1 40 "GracefulRestart" "deferralLeft" "I", Cond.methodLink RX1 145 yX1_waitingPeers, Cond.instanceMethod yX1_waitingPeers, Cond.selects RX1 yX1_waitingPeers yX1_waitingPeers, Cond.initialized RX1, Cond.code yX1_waitingPeers cX1_waitingPeers 4 (some .int), Cond.fieldLink RX1 11 "GracefulRestart" "peers" "[LGracefulRestart$Peer;", Cond.instanceMethod yX0_isAwaited, Cond.initialized RX0, Cond.selects RX0 yX0_isAwaited yX0_isAwaited, Cond.code yX0_isAwaited cX0_isAwaited 1 (some .boolean), Cond.fieldLink RX0 9 "GracefulRestart$Peer" "graceful" "Z", Cond.fieldLink RX0 26 "GracefulRestart$Peer" "state" "I", Cond.fieldLink RX0 36 "GracefulRestart$Peer" "marks" "I", Cond.methodLink RX1 148 yX1_endDeferral, Cond.instanceMethod yX1_endDeferral, Cond.selects RX1 yX1_endDeferral yX1_endDeferral, Cond.code yX1_endDeferral cX1_endDeferral 5 none, Cond.methodLink RX1 50 yX1_selectAll, Cond.instanceMethod yX1_selectAll, Cond.selects RX1 yX1_selectAll yX1_selectAll, Cond.code yX1_selectAll cX1_selectAll 2 none, Cond.methodLink RX1 127 yX1_select]
def wsX1_checkDeferral_r2 : List Cond := [Cond.instanceMethod yX1_select, Cond.selects RX1 yX1_select yX1_select, Cond.code yX1_select cX1_select 7 none, Cond.fieldLink RX1 15 "GracefulRestart" "hops" "[I", Cond.fieldLink RX1 19 "GracefulRestart" "staleHops" "[Z", Cond.instanceMethod yX0_knownOffer, Cond.selects RX0 yX0_knownOffer yX0_knownOffer, Cond.code yX0_knownOffer cX0_knownOffer 2 (some .int), Cond.fieldLink RX0 15 "GracefulRestart$Peer" "offers" "[I", Cond.methodLink RX1 134 yX1_advertise, Cond.instanceMethod yX1_advertise, Cond.selects RX1 yX1_advertise yX1_advertise, Cond.code yX1_advertise cX1_advertise 6 none, Cond.instanceMethod yX0_hearNothing, Cond.selects RX0 yX0_hearNothing yX0_hearNothing, Cond.code yX0_hearNothing cX0_hearNothing 2 none, Cond.fieldLink RX0 22 "GracefulRestart$Peer" "staleLearned" "[Z", Cond.fieldLink RX0 19 "GracefulRestart$Peer" "learned" "[I", Cond.instanceMethod yX0_learn, Cond.selects RX0 yX0_learn yX0_learn, Cond.code yX0_learn cX0_learn 3 none, Cond.instanceMethod yX0_endResync, Cond.selects RX0 yX0_endResync yX0_endResync, Cond.code yX0_endResync cX0_endResync 1 none]
def wsX1_checkDeferral_r3 : List Cond := [Cond.fieldLink RX0 33 "GracefulRestart$Peer" "staleLeft" "I", Cond.methodLink RX0 43 yX0_removeStale, Cond.instanceMethod yX0_removeStale, Cond.selects RX0 yX0_removeStale yX0_removeStale, Cond.code yX0_removeStale cX0_removeStale 3 (some .int)]
def wsX1_checkDeferral : List Cond := .code yX1_checkDeferral cX1_checkDeferral 1 none :: ((wsX1_checkDeferral_r1 ++ (wsX1_checkDeferral_r2 ++ wsX1_checkDeferral_r3)) ++ wsX10 ++ wsX00)
def wsX1_restart_r1 : List Cond := [Cond.fieldLink RX1 11 "GracefulRestart" "peers" "[LGracefulRestart$Peer;", Cond.fieldLink RX1 27 "GracefulRestart" "restartTime" "I", Cond.fieldLink RX1 36 "GracefulRestart" "deferring" "Z", Cond.fieldLink RX1 33 "GracefulRestart" "deferralTime" "I", Cond.fieldLink RX1 40 "GracefulRestart" "deferralLeft" "I", Cond.instanceMethod yX0_loseRouter, Cond.initialized RX0, Cond.selects RX0 yX0_loseRouter yX0_loseRouter, Cond.code yX0_loseRouter cX0_loseRouter 3 none, Cond.fieldLink RX0 9 "GracefulRestart$Peer" "graceful" "Z", Cond.fieldLink RX0 26 "GracefulRestart$Peer" "state" "I", Cond.fieldLink RX0 22 "GracefulRestart$Peer" "staleLearned" "[Z", Cond.fieldLink RX0 19 "GracefulRestart$Peer" "learned" "[I", Cond.fieldLink RX0 33 "GracefulRestart$Peer" "staleLeft" "I", Cond.fieldLink RX0 30 "GracefulRestart$Peer" "restartLeft" "I", Cond.methodLink RX0 39 yX0_goDown, Cond.instanceMethod yX0_goDown, Cond.selects RX0 yX0_goDown yX0_goDown, Cond.code yX0_goDown cX0_goDown 1 (some .int), Cond.methodLink RX0 46 yX0_removeLearned, Cond.instanceMethod yX0_removeLearned, Cond.selects RX0 yX0_removeLearned yX0_removeLearned, Cond.code yX0_removeLearned cX0_removeLearned 3 (some .int), Cond.methodLink RX0 43 yX0_removeStale]
def wsX1_restart_r2 : List Cond := [Cond.instanceMethod yX0_removeStale, Cond.selects RX0 yX0_removeStale yX0_removeStale, Cond.code yX0_removeStale cX0_removeStale 3 (some .int), Cond.methodLink RX1 78 yX1_makeEntriesStale, Cond.instanceMethod yX1_makeEntriesStale, Cond.selects RX1 yX1_makeEntriesStale yX1_makeEntriesStale, Cond.initialized RX1, Cond.code yX1_makeEntriesStale cX1_makeEntriesStale 2 none, Cond.fieldLink RX1 19 "GracefulRestart" "staleHops" "[Z", Cond.methodLink RX1 81 yX1_removeEntries, Cond.instanceMethod yX1_removeEntries, Cond.selects RX1 yX1_removeEntries yX1_removeEntries, Cond.code yX1_removeEntries cX1_removeEntries 2 none, Cond.fieldLink RX1 15 "GracefulRestart" "hops" "[I", Cond.methodLink RX1 84 yX1_checkDeferral, Cond.instanceMethod yX1_checkDeferral, Cond.selects RX1 yX1_checkDeferral yX1_checkDeferral, Cond.code yX1_checkDeferral cX1_checkDeferral 1 none, Cond.methodLink RX1 145 yX1_waitingPeers, Cond.instanceMethod yX1_waitingPeers, Cond.selects RX1 yX1_waitingPeers yX1_waitingPeers, Cond.code yX1_waitingPeers cX1_waitingPeers 4 (some .int), Cond.instanceMethod yX0_isAwaited, Cond.selects RX0 yX0_isAwaited yX0_isAwaited]
def wsX1_restart_r3 : List Cond := [Cond.code yX0_isAwaited cX0_isAwaited 1 (some .boolean), Cond.fieldLink RX0 36 "GracefulRestart$Peer" "marks" "I", Cond.methodLink RX1 148 yX1_endDeferral, Cond.instanceMethod yX1_endDeferral, Cond.selects RX1 yX1_endDeferral yX1_endDeferral, Cond.code yX1_endDeferral cX1_endDeferral 5 none, Cond.methodLink RX1 50 yX1_selectAll, Cond.instanceMethod yX1_selectAll, Cond.selects RX1 yX1_selectAll yX1_selectAll, Cond.code yX1_selectAll cX1_selectAll 2 none, Cond.methodLink RX1 127 yX1_select, Cond.instanceMethod yX1_select, Cond.selects RX1 yX1_select yX1_select, Cond.code yX1_select cX1_select 7 none, Cond.instanceMethod yX0_knownOffer, Cond.selects RX0 yX0_knownOffer yX0_knownOffer, Cond.code yX0_knownOffer cX0_knownOffer 2 (some .int), Cond.fieldLink RX0 15 "GracefulRestart$Peer" "offers" "[I", Cond.methodLink RX1 134 yX1_advertise, Cond.instanceMethod yX1_advertise, Cond.selects RX1 yX1_advertise yX1_advertise, Cond.code yX1_advertise cX1_advertise 6 none, Cond.instanceMethod yX0_hearNothing, Cond.selects RX0 yX0_hearNothing yX0_hearNothing]
def wsX1_restart_r4 : List Cond := [Cond.code yX0_hearNothing cX0_hearNothing 2 none, Cond.instanceMethod yX0_learn, Cond.selects RX0 yX0_learn yX0_learn, Cond.code yX0_learn cX0_learn 3 none, Cond.instanceMethod yX0_endResync, Cond.selects RX0 yX0_endResync yX0_endResync, Cond.code yX0_endResync cX0_endResync 1 none]
def wsX1_restart : List Cond := .code yX1_restart cX1_restart 7 (some .int) :: ((wsX1_restart_r1 ++ (wsX1_restart_r2 ++ (wsX1_restart_r3 ++ wsX1_restart_r4))) ++ wsX10 ++ wsX00)
def wsX1_reconnect_r1 : List Cond := [Cond.fieldLink RX1 30 "GracefulRestart" "staleTime" "I", Cond.fieldLink RX1 36 "GracefulRestart" "deferring" "Z", Cond.methodLink RX1 53 yX1_findPeer, Cond.instanceMethod yX1_findPeer, Cond.selects RX1 yX1_findPeer yX1_findPeer, Cond.initialized RX1, Cond.code yX1_findPeer cX1_findPeer 2 (some (.object "GracefulRestart$Peer")), Cond.fieldLink RX1 11 "GracefulRestart" "peers" "[LGracefulRestart$Peer;", Cond.instanceMethod yX0_meetRouter, Cond.initialized RX0, Cond.selects RX0 yX0_meetRouter yX0_meetRouter, Cond.code yX0_meetRouter cX0_meetRouter 2 none, Cond.fieldLink RX0 26 "GracefulRestart$Peer" "state" "I", Cond.fieldLink RX0 30 "GracefulRestart$Peer" "restartLeft" "I", Cond.fieldLink RX0 33 "GracefulRestart$Peer" "staleLeft" "I", Cond.methodLink RX1 50 yX1_selectAll, Cond.instanceMethod yX1_selectAll, Cond.selects RX1 yX1_selectAll yX1_selectAll, Cond.code yX1_selectAll cX1_selectAll 2 none, Cond.methodLink RX1 127 yX1_select, Cond.instanceMethod yX1_select, Cond.selects RX1 yX1_select yX1_select, Cond.code yX1_select cX1_select 7 none, Cond.fieldLink RX1 15 "GracefulRestart" "hops" "[I"]
def wsX1_reconnect_r2 : List Cond := [Cond.fieldLink RX1 19 "GracefulRestart" "staleHops" "[Z", Cond.instanceMethod yX0_knownOffer, Cond.selects RX0 yX0_knownOffer yX0_knownOffer, Cond.code yX0_knownOffer cX0_knownOffer 2 (some .int), Cond.fieldLink RX0 15 "GracefulRestart$Peer" "offers" "[I", Cond.methodLink RX1 134 yX1_advertise, Cond.instanceMethod yX1_advertise, Cond.selects RX1 yX1_advertise yX1_advertise, Cond.code yX1_advertise cX1_advertise 6 none, Cond.instanceMethod yX0_hearNothing, Cond.selects RX0 yX0_hearNothing yX0_hearNothing, Cond.code yX0_hearNothing cX0_hearNothing 2 none, Cond.fieldLink RX0 22 "GracefulRestart$Peer" "staleLearned" "[Z", Cond.fieldLink RX0 19 "GracefulRestart$Peer" "learned" "[I", Cond.instanceMethod yX0_learn, Cond.selects RX0 yX0_learn yX0_learn, Cond.code yX0_learn cX0_learn 3 none, Cond.instanceMethod yX0_endResync, Cond.selects RX0 yX0_endResync yX0_endResync, Cond.code yX0_endResync cX0_endResync 1 none, Cond.methodLink RX0 43 yX0_removeStale, Cond.instanceMethod yX0_removeStale, Cond.selects RX0 yX0_removeStale yX0_removeStale, Cond.code yX0_removeStale cX0_removeStale 3 (some .int)]
def wsX1_reconnect_r3 : List Cond := [Cond.methodLink RX1 84 yX1_checkDeferral, Cond.instanceMethod yX1_checkDeferral, Cond.selects RX1 yX1_checkDeferral yX1_checkDeferral, Cond.code yX1_checkDeferral cX1_checkDeferral 1 none, Cond.fieldLink RX1 40 "GracefulRestart" "deferralLeft" "I", Cond.methodLink RX1 145 yX1_waitingPeers, Cond.instanceMethod yX1_waitingPeers, Cond.selects RX1 yX1_waitingPeers yX1_waitingPeers, Cond.code yX1_waitingPeers cX1_waitingPeers 4 (some .int), Cond.instanceMethod yX0_isAwaited, Cond.selects RX0 yX0_isAwaited yX0_isAwaited, Cond.code yX0_isAwaited cX0_isAwaited 1 (some .boolean), Cond.fieldLink RX0 9 "GracefulRestart$Peer" "graceful" "Z", Cond.fieldLink RX0 36 "GracefulRestart$Peer" "marks" "I", Cond.methodLink RX1 148 yX1_endDeferral, Cond.instanceMethod yX1_endDeferral, Cond.selects RX1 yX1_endDeferral yX1_endDeferral, Cond.code yX1_endDeferral cX1_endDeferral 5 none, Cond.instanceMethod yX0_countOffers, Cond.selects RX0 yX0_countOffers yX0_countOffers, Cond.code yX0_countOffers cX0_countOffers 6 (some .int)]
def wsX1_reconnect : List Cond := .code yX1_reconnect cX1_reconnect 3 (some .int) :: ((wsX1_reconnect_r1 ++ (wsX1_reconnect_r2 ++ wsX1_reconnect_r3)) ++ wsX00 ++ wsX10)
def wsX1_disconnect_r1 : List Cond := [Cond.fieldLink RX1 36 "GracefulRestart" "deferring" "Z", Cond.methodLink RX1 53 yX1_findPeer, Cond.instanceMethod yX1_findPeer, Cond.selects RX1 yX1_findPeer yX1_findPeer, Cond.initialized RX1, Cond.code yX1_findPeer cX1_findPeer 2 (some (.object "GracefulRestart$Peer")), Cond.fieldLink RX1 11 "GracefulRestart" "peers" "[LGracefulRestart$Peer;", Cond.instanceMethod yX0_goDown, Cond.initialized RX0, Cond.selects RX0 yX0_goDown yX0_goDown, Cond.code yX0_goDown cX0_goDown 1 (some .int), Cond.fieldLink RX0 26 "GracefulRestart$Peer" "state" "I", Cond.fieldLink RX0 30 "GracefulRestart$Peer" "restartLeft" "I", Cond.fieldLink RX0 33 "GracefulRestart$Peer" "staleLeft" "I", Cond.methodLink RX0 46 yX0_removeLearned, Cond.instanceMethod yX0_removeLearned, Cond.selects RX0 yX0_removeLearned yX0_removeLearned, Cond.code yX0_removeLearned cX0_removeLearned 3 (some .int), Cond.fieldLink RX0 19 "GracefulRestart$Peer" "learned" "[I", Cond.fieldLink RX0 22 "GracefulRestart$Peer" "staleLearned" "[Z", Cond.methodLink RX1 50 yX1_selectAll, Cond.instanceMethod yX1_selectAll, Cond.selects RX1 yX1_selectAll yX1_selectAll, Cond.code yX1_selectAll cX1_selectAll 2 none]
def wsX1_disconnect_r2 : List Cond := [Cond.methodLink RX1 127 yX1_select, Cond.instanceMethod yX1_select, Cond.selects RX1 yX1_select yX1_select, Cond.code yX1_select cX1_select 7 none, Cond.fieldLink RX1 15 "GracefulRestart" "hops" "[I", Cond.fieldLink RX1 19 "GracefulRestart" "staleHops" "[Z", Cond.instanceMethod yX0_knownOffer, Cond.selects RX0 yX0_knownOffer yX0_knownOffer, Cond.code yX0_knownOffer cX0_knownOffer 2 (some .int), Cond.fieldLink RX0 15 "GracefulRestart$Peer" "offers" "[I", Cond.methodLink RX1 134 yX1_advertise, Cond.instanceMethod yX1_advertise, Cond.selects RX1 yX1_advertise yX1_advertise, Cond.code yX1_advertise cX1_advertise 6 none, Cond.instanceMethod yX0_hearNothing, Cond.selects RX0 yX0_hearNothing yX0_hearNothing, Cond.code yX0_hearNothing cX0_hearNothing 2 none, Cond.instanceMethod yX0_learn, Cond.selects RX0 yX0_learn yX0_learn, Cond.code yX0_learn cX0_learn 3 none, Cond.methodLink RX1 84 yX1_checkDeferral, Cond.instanceMethod yX1_checkDeferral, Cond.selects RX1 yX1_checkDeferral yX1_checkDeferral, Cond.code yX1_checkDeferral cX1_checkDeferral 1 none]
def wsX1_disconnect_r3 : List Cond := [Cond.fieldLink RX1 40 "GracefulRestart" "deferralLeft" "I", Cond.methodLink RX1 145 yX1_waitingPeers, Cond.instanceMethod yX1_waitingPeers, Cond.selects RX1 yX1_waitingPeers yX1_waitingPeers, Cond.code yX1_waitingPeers cX1_waitingPeers 4 (some .int), Cond.instanceMethod yX0_isAwaited, Cond.selects RX0 yX0_isAwaited yX0_isAwaited, Cond.code yX0_isAwaited cX0_isAwaited 1 (some .boolean), Cond.fieldLink RX0 9 "GracefulRestart$Peer" "graceful" "Z", Cond.fieldLink RX0 36 "GracefulRestart$Peer" "marks" "I", Cond.methodLink RX1 148 yX1_endDeferral, Cond.instanceMethod yX1_endDeferral, Cond.selects RX1 yX1_endDeferral yX1_endDeferral, Cond.code yX1_endDeferral cX1_endDeferral 5 none, Cond.instanceMethod yX0_endResync, Cond.selects RX0 yX0_endResync yX0_endResync, Cond.code yX0_endResync cX0_endResync 1 none, Cond.methodLink RX0 43 yX0_removeStale, Cond.instanceMethod yX0_removeStale, Cond.selects RX0 yX0_removeStale yX0_removeStale, Cond.code yX0_removeStale cX0_removeStale 3 (some .int)]
def wsX1_disconnect : List Cond := .code yX1_disconnect cX1_disconnect 4 (some .int) :: ((wsX1_disconnect_r1 ++ (wsX1_disconnect_r2 ++ wsX1_disconnect_r3)) ++ wsX00 ++ wsX10)
def wsX1_endOfTable_r1 : List Cond := [Cond.methodLink RX1 53 yX1_findPeer, Cond.instanceMethod yX1_findPeer, Cond.selects RX1 yX1_findPeer yX1_findPeer, Cond.initialized RX1, Cond.code yX1_findPeer cX1_findPeer 2 (some (.object "GracefulRestart$Peer")), Cond.fieldLink RX1 11 "GracefulRestart" "peers" "[LGracefulRestart$Peer;", Cond.methodLink RX1 84 yX1_checkDeferral, Cond.instanceMethod yX1_checkDeferral, Cond.selects RX1 yX1_checkDeferral yX1_checkDeferral, Cond.code yX1_checkDeferral cX1_checkDeferral 1 none, Cond.fieldLink RX1 36 "GracefulRestart" "deferring" "Z", Cond.fieldLink RX1 40 "GracefulRestart" "deferralLeft" "I", Cond.methodLink RX1 145 yX1_waitingPeers, Cond.instanceMethod yX1_waitingPeers, Cond.selects RX1 yX1_waitingPeers yX1_waitingPeers, Cond.code yX1_waitingPeers cX1_waitingPeers 4 (some .int), Cond.instanceMethod yX0_isAwaited, Cond.initialized RX0, Cond.selects RX0 yX0_isAwaited yX0_isAwaited, Cond.code yX0_isAwaited cX0_isAwaited 1 (some .boolean), Cond.fieldLink RX0 9 "GracefulRestart$Peer" "graceful" "Z", Cond.fieldLink RX0 26 "GracefulRestart$Peer" "state" "I", Cond.fieldLink RX0 36 "GracefulRestart$Peer" "marks" "I", Cond.methodLink RX1 148 yX1_endDeferral]
def wsX1_endOfTable_r2 : List Cond := [Cond.instanceMethod yX1_endDeferral, Cond.selects RX1 yX1_endDeferral yX1_endDeferral, Cond.code yX1_endDeferral cX1_endDeferral 5 none, Cond.methodLink RX1 50 yX1_selectAll, Cond.instanceMethod yX1_selectAll, Cond.selects RX1 yX1_selectAll yX1_selectAll, Cond.code yX1_selectAll cX1_selectAll 2 none, Cond.methodLink RX1 127 yX1_select, Cond.instanceMethod yX1_select, Cond.selects RX1 yX1_select yX1_select, Cond.code yX1_select cX1_select 7 none, Cond.fieldLink RX1 15 "GracefulRestart" "hops" "[I", Cond.fieldLink RX1 19 "GracefulRestart" "staleHops" "[Z", Cond.instanceMethod yX0_knownOffer, Cond.selects RX0 yX0_knownOffer yX0_knownOffer, Cond.code yX0_knownOffer cX0_knownOffer 2 (some .int), Cond.fieldLink RX0 15 "GracefulRestart$Peer" "offers" "[I", Cond.methodLink RX1 134 yX1_advertise, Cond.instanceMethod yX1_advertise, Cond.selects RX1 yX1_advertise yX1_advertise, Cond.code yX1_advertise cX1_advertise 6 none, Cond.instanceMethod yX0_hearNothing, Cond.selects RX0 yX0_hearNothing yX0_hearNothing, Cond.code yX0_hearNothing cX0_hearNothing 2 none]
def wsX1_endOfTable_r3 : List Cond := [Cond.fieldLink RX0 22 "GracefulRestart$Peer" "staleLearned" "[Z", Cond.fieldLink RX0 19 "GracefulRestart$Peer" "learned" "[I", Cond.instanceMethod yX0_learn, Cond.selects RX0 yX0_learn yX0_learn, Cond.code yX0_learn cX0_learn 3 none, Cond.instanceMethod yX0_endResync, Cond.selects RX0 yX0_endResync yX0_endResync, Cond.code yX0_endResync cX0_endResync 1 none, Cond.fieldLink RX0 33 "GracefulRestart$Peer" "staleLeft" "I", Cond.methodLink RX0 43 yX0_removeStale, Cond.instanceMethod yX0_removeStale, Cond.selects RX0 yX0_removeStale yX0_removeStale, Cond.code yX0_removeStale cX0_removeStale 3 (some .int)]
def wsX1_endOfTable : List Cond := .code yX1_endOfTable cX1_endOfTable 5 (some .int) :: ((wsX1_endOfTable_r1 ++ (wsX1_endOfTable_r2 ++ wsX1_endOfTable_r3)) ++ wsX00 ++ wsX10)
def wsX1_countDownPeers : List Cond := .code yX1_countDownPeers cX1_countDownPeers 6 (some .int) :: ([.fieldLink RX1 11 "GracefulRestart" "peers" "[LGracefulRestart$Peer;", .instanceMethod yX0_countDown, .initialized RX0, .selects RX0 yX0_countDown yX0_countDown, .code yX0_countDown cX0_countDown 2 (some .int), .fieldLink RX0 30 "GracefulRestart$Peer" "restartLeft" "I", .fieldLink RX0 33 "GracefulRestart$Peer" "staleLeft" "I", .methodLink RX0 39 yX0_goDown, .instanceMethod yX0_goDown, .selects RX0 yX0_goDown yX0_goDown, .code yX0_goDown cX0_goDown 1 (some .int), .fieldLink RX0 26 "GracefulRestart$Peer" "state" "I", .methodLink RX0 46 yX0_removeLearned, .instanceMethod yX0_removeLearned, .selects RX0 yX0_removeLearned yX0_removeLearned, .code yX0_removeLearned cX0_removeLearned 3 (some .int), .fieldLink RX0 19 "GracefulRestart$Peer" "learned" "[I", .fieldLink RX0 22 "GracefulRestart$Peer" "staleLearned" "[Z", .methodLink RX0 43 yX0_removeStale, .instanceMethod yX0_removeStale, .selects RX0 yX0_removeStale yX0_removeStale, .code yX0_removeStale cX0_removeStale 3 (some .int)] ++ wsX10 ++ wsX00)
def wsX1_tick_r1 : List Cond := [Cond.fieldLink RX1 40 "GracefulRestart" "deferralLeft" "I", Cond.methodLink RX1 100 yX1_countDownPeers, Cond.instanceMethod yX1_countDownPeers, Cond.selects RX1 yX1_countDownPeers yX1_countDownPeers, Cond.initialized RX1, Cond.code yX1_countDownPeers cX1_countDownPeers 6 (some .int), Cond.fieldLink RX1 11 "GracefulRestart" "peers" "[LGracefulRestart$Peer;", Cond.instanceMethod yX0_countDown, Cond.initialized RX0, Cond.selects RX0 yX0_countDown yX0_countDown, Cond.code yX0_countDown cX0_countDown 2 (some .int), Cond.fieldLink RX0 30 "GracefulRestart$Peer" "restartLeft" "I", Cond.fieldLink RX0 33 "GracefulRestart$Peer" "staleLeft" "I", Cond.methodLink RX0 39 yX0_goDown, Cond.instanceMethod yX0_goDown, Cond.selects RX0 yX0_goDown yX0_goDown, Cond.code yX0_goDown cX0_goDown 1 (some .int), Cond.fieldLink RX0 26 "GracefulRestart$Peer" "state" "I", Cond.methodLink RX0 46 yX0_removeLearned, Cond.instanceMethod yX0_removeLearned, Cond.selects RX0 yX0_removeLearned yX0_removeLearned, Cond.code yX0_removeLearned cX0_removeLearned 3 (some .int), Cond.fieldLink RX0 19 "GracefulRestart$Peer" "learned" "[I", Cond.fieldLink RX0 22 "GracefulRestart$Peer" "staleLearned" "[Z"]
def wsX1_tick_r2 : List Cond := [Cond.methodLink RX0 43 yX0_removeStale, Cond.instanceMethod yX0_removeStale, Cond.selects RX0 yX0_removeStale yX0_removeStale, Cond.code yX0_removeStale cX0_removeStale 3 (some .int), Cond.methodLink RX1 84 yX1_checkDeferral, Cond.instanceMethod yX1_checkDeferral, Cond.selects RX1 yX1_checkDeferral yX1_checkDeferral, Cond.code yX1_checkDeferral cX1_checkDeferral 1 none, Cond.fieldLink RX1 36 "GracefulRestart" "deferring" "Z", Cond.methodLink RX1 145 yX1_waitingPeers, Cond.instanceMethod yX1_waitingPeers, Cond.selects RX1 yX1_waitingPeers yX1_waitingPeers, Cond.code yX1_waitingPeers cX1_waitingPeers 4 (some .int), Cond.instanceMethod yX0_isAwaited, Cond.selects RX0 yX0_isAwaited yX0_isAwaited, Cond.code yX0_isAwaited cX0_isAwaited 1 (some .boolean), Cond.fieldLink RX0 9 "GracefulRestart$Peer" "graceful" "Z", Cond.fieldLink RX0 36 "GracefulRestart$Peer" "marks" "I", Cond.methodLink RX1 148 yX1_endDeferral, Cond.instanceMethod yX1_endDeferral, Cond.selects RX1 yX1_endDeferral yX1_endDeferral, Cond.code yX1_endDeferral cX1_endDeferral 5 none, Cond.methodLink RX1 50 yX1_selectAll, Cond.instanceMethod yX1_selectAll]
def wsX1_tick_r3 : List Cond := [Cond.selects RX1 yX1_selectAll yX1_selectAll, Cond.code yX1_selectAll cX1_selectAll 2 none, Cond.methodLink RX1 127 yX1_select, Cond.instanceMethod yX1_select, Cond.selects RX1 yX1_select yX1_select, Cond.code yX1_select cX1_select 7 none, Cond.fieldLink RX1 15 "GracefulRestart" "hops" "[I", Cond.fieldLink RX1 19 "GracefulRestart" "staleHops" "[Z", Cond.instanceMethod yX0_knownOffer, Cond.selects RX0 yX0_knownOffer yX0_knownOffer, Cond.code yX0_knownOffer cX0_knownOffer 2 (some .int), Cond.fieldLink RX0 15 "GracefulRestart$Peer" "offers" "[I", Cond.methodLink RX1 134 yX1_advertise, Cond.instanceMethod yX1_advertise, Cond.selects RX1 yX1_advertise yX1_advertise, Cond.code yX1_advertise cX1_advertise 6 none, Cond.instanceMethod yX0_hearNothing, Cond.selects RX0 yX0_hearNothing yX0_hearNothing, Cond.code yX0_hearNothing cX0_hearNothing 2 none, Cond.instanceMethod yX0_learn, Cond.selects RX0 yX0_learn yX0_learn, Cond.code yX0_learn cX0_learn 3 none, Cond.instanceMethod yX0_endResync, Cond.selects RX0 yX0_endResync yX0_endResync]
def wsX1_tick_r4 : List Cond := [Cond.code yX0_endResync cX0_endResync 1 none]
def wsX1_tick : List Cond := .code yX1_tick cX1_tick 4 (some .int) :: ((wsX1_tick_r1 ++ (wsX1_tick_r2 ++ (wsX1_tick_r3 ++ wsX1_tick_r4))) ++ wsX10 ++ wsX00)
def wsX1_isDeferring : List Cond := .code yX1_isDeferring cX1_isDeferring 1 (some .int) :: ([.fieldLink RX1 36 "GracefulRestart" "deferring" "Z"] ++ wsX10)
def wsX1_deferralTimer : List Cond := .code yX1_deferralTimer cX1_deferralTimer 1 (some .int) :: ([.fieldLink RX1 40 "GracefulRestart" "deferralLeft" "I"] ++ wsX10)
def wsX1_nextHop : List Cond := .code yX1_nextHop cX1_nextHop 4 (some .int) :: ([.fieldLink RX1 15 "GracefulRestart" "hops" "[I", .methodLink RX1 57 yX1_routeOf, .static yX1_routeOf, .initialized RX1, .code yX1_routeOf cX1_routeOf 2 (some .int)] ++ wsX10)
def wsX1_isEntryStale : List Cond := .code yX1_isEntryStale cX1_isEntryStale 4 (some .int) :: ([.fieldLink RX1 15 "GracefulRestart" "hops" "[I", .fieldLink RX1 19 "GracefulRestart" "staleHops" "[Z", .methodLink RX1 57 yX1_routeOf, .static yX1_routeOf, .initialized RX1, .code yX1_routeOf cX1_routeOf 2 (some .int)] ++ wsX10)
def wsX1_sessionState : List Cond := .code yX1_sessionState cX1_sessionState 3 (some .int) :: ([.methodLink RX1 53 yX1_findPeer, .instanceMethod yX1_findPeer, .selects RX1 yX1_findPeer yX1_findPeer, .initialized RX1, .code yX1_findPeer cX1_findPeer 2 (some (.object "GracefulRestart$Peer")), .fieldLink RX1 11 "GracefulRestart" "peers" "[LGracefulRestart$Peer;"] ++ wsX00 ++ wsX10)
def wsX1_restartTimer : List Cond := .code yX1_restartTimer cX1_restartTimer 3 (some .int) :: ([.methodLink RX1 53 yX1_findPeer, .instanceMethod yX1_findPeer, .selects RX1 yX1_findPeer yX1_findPeer, .initialized RX1, .code yX1_findPeer cX1_findPeer 2 (some (.object "GracefulRestart$Peer")), .fieldLink RX1 11 "GracefulRestart" "peers" "[LGracefulRestart$Peer;"] ++ wsX00 ++ wsX10)
def wsX1_staleTimer : List Cond := .code yX1_staleTimer cX1_staleTimer 3 (some .int) :: ([.methodLink RX1 53 yX1_findPeer, .instanceMethod yX1_findPeer, .selects RX1 yX1_findPeer yX1_findPeer, .initialized RX1, .code yX1_findPeer cX1_findPeer 2 (some (.object "GracefulRestart$Peer")), .fieldLink RX1 11 "GracefulRestart" "peers" "[LGracefulRestart$Peer;"] ++ wsX00 ++ wsX10)
def wsX1_learnedLength : List Cond := .code yX1_learnedLength cX1_learnedLength 7 (some .int) :: ([.methodLink RX1 53 yX1_findPeer, .instanceMethod yX1_findPeer, .selects RX1 yX1_findPeer yX1_findPeer, .initialized RX1, .code yX1_findPeer cX1_findPeer 2 (some (.object "GracefulRestart$Peer")), .fieldLink RX1 11 "GracefulRestart" "peers" "[LGracefulRestart$Peer;", .methodLink RX1 57 yX1_routeOf, .static yX1_routeOf, .code yX1_routeOf cX1_routeOf 2 (some .int)] ++ wsX00 ++ wsX10)
def wsX1_isLearnedStale : List Cond := .code yX1_isLearnedStale cX1_isLearnedStale 6 (some .int) :: ([.methodLink RX1 53 yX1_findPeer, .instanceMethod yX1_findPeer, .selects RX1 yX1_findPeer yX1_findPeer, .initialized RX1, .code yX1_findPeer cX1_findPeer 2 (some (.object "GracefulRestart$Peer")), .fieldLink RX1 11 "GracefulRestart" "peers" "[LGracefulRestart$Peer;", .methodLink RX1 57 yX1_routeOf, .static yX1_routeOf, .code yX1_routeOf cX1_routeOf 2 (some .int)] ++ wsX00 ++ wsX10)
def wsX1_followPacket : List Cond := .code yX1_followPacket cX1_followPacket 5 (some .int) :: ([.fieldLink RX1 15 "GracefulRestart" "hops" "[I"] ++ wsX00 ++ wsX10)
def wsX1_forward : List Cond := .code yX1_forward cX1_forward 6 (some .int) :: ([.methodLink RX1 53 yX1_findPeer, .instanceMethod yX1_findPeer, .selects RX1 yX1_findPeer yX1_findPeer, .initialized RX1, .code yX1_findPeer cX1_findPeer 2 (some (.object "GracefulRestart$Peer")), .fieldLink RX1 11 "GracefulRestart" "peers" "[LGracefulRestart$Peer;", .methodLink RX1 57 yX1_routeOf, .static yX1_routeOf, .code yX1_routeOf cX1_routeOf 2 (some .int), .methodLink RX1 119 yX1_followPacket, .instanceMethod yX1_followPacket, .selects RX1 yX1_followPacket yX1_followPacket, .code yX1_followPacket cX1_followPacket 5 (some .int), .fieldLink RX1 15 "GracefulRestart" "hops" "[I"] ++ wsX10 ++ wsX00)
def wsX1_reachableCount : List Cond := .code yX1_reachableCount cX1_reachableCount 5 (some .int) :: ([.methodLink RX1 53 yX1_findPeer, .instanceMethod yX1_findPeer, .selects RX1 yX1_findPeer yX1_findPeer, .initialized RX1, .code yX1_findPeer cX1_findPeer 2 (some (.object "GracefulRestart$Peer")), .fieldLink RX1 11 "GracefulRestart" "peers" "[LGracefulRestart$Peer;", .methodLink RX1 119 yX1_followPacket, .instanceMethod yX1_followPacket, .selects RX1 yX1_followPacket yX1_followPacket, .code yX1_followPacket cX1_followPacket 5 (some .int), .fieldLink RX1 15 "GracefulRestart" "hops" "[I"] ++ wsX10 ++ wsX00)
def wsX1_countLoops : List Cond := .code yX1_countLoops cX1_countLoops 5 (some .int) :: ([.methodLink RX1 119 yX1_followPacket, .instanceMethod yX1_followPacket, .selects RX1 yX1_followPacket yX1_followPacket, .initialized RX1, .code yX1_followPacket cX1_followPacket 5 (some .int), .fieldLink RX1 15 "GracefulRestart" "hops" "[I"] ++ wsX00 ++ wsX10)
def wsX1_loopCount : List Cond := .code yX1_loopCount cX1_loopCount 4 (some .int) :: ([.fieldLink RX1 11 "GracefulRestart" "peers" "[LGracefulRestart$Peer;", .methodLink RX1 123 yX1_countLoops, .instanceMethod yX1_countLoops, .selects RX1 yX1_countLoops yX1_countLoops, .initialized RX1, .code yX1_countLoops cX1_countLoops 5 (some .int), .methodLink RX1 119 yX1_followPacket, .instanceMethod yX1_followPacket, .selects RX1 yX1_followPacket yX1_followPacket, .code yX1_followPacket cX1_followPacket 5 (some .int), .fieldLink RX1 15 "GracefulRestart" "hops" "[I"] ++ wsX10 ++ wsX00)
def wsX2_init : List Cond := .code yX2_init cX2_init 2 none :: ([.methodLink RX2 1 objectInit, .instanceMethod objectInit, .code objectInit ⟨#[0xb1]⟩ 1 none, .fieldLink RX2 7 "GracefulRestartModel" "restartTime" "I", .fieldLink RX2 13 "GracefulRestartModel" "staleTime" "I", .fieldLink RX2 16 "GracefulRestartModel" "deferralTime" "I", .arrayClass .boolean, .fieldLink RX2 19 "GracefulRestartModel" "isGraceful" "[Z", .arrayClass .int, .fieldLink RX2 23 "GracefulRestartModel" "stateOf" "[I", .fieldLink RX2 27 "GracefulRestartModel" "restartTimerOf" "[I", .fieldLink RX2 30 "GracefulRestartModel" "staleTimerOf" "[I", .fieldLink RX2 33 "GracefulRestartModel" "hasMarked" "[Z", .fieldLink RX2 36 "GracefulRestartModel" "offered" "[I", .fieldLink RX2 39 "GracefulRestartModel" "learned" "[I", .fieldLink RX2 42 "GracefulRestartModel" "isStaleAt" "[Z", .fieldLink RX2 45 "GracefulRestartModel" "hopOf" "[I", .fieldLink RX2 48 "GracefulRestartModel" "isStaleHop" "[Z"] ++ wsX20)
def wsX2_within : List Cond := .code yX2_within cX2_within 3 (some .boolean) :: ([])
def wsX2_isRoute : List Cond := .code yX2_isRoute cX2_isRoute 2 (some .boolean) :: ([.methodLink RX2 51 yX2_within, .static yX2_within, .initialized RX2, .code yX2_within cX2_within 3 (some .boolean)])
def wsX2_setRestartTime : List Cond := .code yX2_setRestartTime cX2_setRestartTime 3 (some .int) :: ([.fieldLink RX2 7 "GracefulRestartModel" "restartTime" "I", .methodLink RX2 51 yX2_within, .static yX2_within, .initialized RX2, .code yX2_within cX2_within 3 (some .boolean)] ++ wsX20)
def wsX2_setStaleTime : List Cond := .code yX2_setStaleTime cX2_setStaleTime 3 (some .int) :: ([.fieldLink RX2 13 "GracefulRestartModel" "staleTime" "I", .methodLink RX2 51 yX2_within, .static yX2_within, .initialized RX2, .code yX2_within cX2_within 3 (some .boolean)] ++ wsX20)
def wsX2_setDeferralTime : List Cond := .code yX2_setDeferralTime cX2_setDeferralTime 3 (some .int) :: ([.fieldLink RX2 16 "GracefulRestartModel" "deferralTime" "I", .methodLink RX2 51 yX2_within, .static yX2_within, .initialized RX2, .code yX2_within cX2_within 3 (some .boolean)] ++ wsX20)
def wsX2_isPeer : List Cond := .code yX2_isPeer cX2_isPeer 2 (some .boolean) :: ([.fieldLink RX2 55 "GracefulRestartModel" "peers" "I", .methodLink RX2 51 yX2_within, .static yX2_within, .initialized RX2, .code yX2_within cX2_within 3 (some .boolean)] ++ wsX20)
def wsX2_bestPeer : List Cond := .code yX2_bestPeer cX2_bestPeer 5 (some .int) :: ([.fieldLink RX2 55 "GracefulRestartModel" "peers" "I", .fieldLink RX2 23 "GracefulRestartModel" "stateOf" "[I", .fieldLink RX2 36 "GracefulRestartModel" "offered" "[I"] ++ wsX20)
def wsX2_updates : List Cond := .code yX2_updates cX2_updates 5 none :: ([.fieldLink RX2 39 "GracefulRestartModel" "learned" "[I", .fieldLink RX2 36 "GracefulRestartModel" "offered" "[I", .fieldLink RX2 42 "GracefulRestartModel" "isStaleAt" "[Z"] ++ wsX20)
def wsX2_selects : List Cond := .code yX2_selects cX2_selects 4 none :: ([.fieldLink RX2 45 "GracefulRestartModel" "hopOf" "[I", .fieldLink RX2 48 "GracefulRestartModel" "isStaleHop" "[Z", .fieldLink RX2 55 "GracefulRestartModel" "peers" "I", .fieldLink RX2 23 "GracefulRestartModel" "stateOf" "[I", .methodLink RX2 58 yX2_bestPeer, .instanceMethod yX2_bestPeer, .selects RX2 yX2_bestPeer yX2_bestPeer, .initialized RX2, .code yX2_bestPeer cX2_bestPeer 5 (some .int), .fieldLink RX2 36 "GracefulRestartModel" "offered" "[I", .methodLink RX2 62 yX2_updates, .instanceMethod yX2_updates, .selects RX2 yX2_updates yX2_updates, .code yX2_updates cX2_updates 5 none, .fieldLink RX2 39 "GracefulRestartModel" "learned" "[I", .fieldLink RX2 42 "GracefulRestartModel" "isStaleAt" "[Z"] ++ wsX20)
def wsX2_selectsAll : List Cond := .code yX2_selectsAll cX2_selectsAll 2 none :: ([.methodLink RX2 66 yX2_selects, .instanceMethod yX2_selects, .selects RX2 yX2_selects yX2_selects, .initialized RX2, .code yX2_selects cX2_selects 4 none, .fieldLink RX2 45 "GracefulRestartModel" "hopOf" "[I", .fieldLink RX2 48 "GracefulRestartModel" "isStaleHop" "[Z", .fieldLink RX2 55 "GracefulRestartModel" "peers" "I", .fieldLink RX2 23 "GracefulRestartModel" "stateOf" "[I", .methodLink RX2 58 yX2_bestPeer, .instanceMethod yX2_bestPeer, .selects RX2 yX2_bestPeer yX2_bestPeer, .code yX2_bestPeer cX2_bestPeer 5 (some .int), .fieldLink RX2 36 "GracefulRestartModel" "offered" "[I", .methodLink RX2 62 yX2_updates, .instanceMethod yX2_updates, .selects RX2 yX2_updates yX2_updates, .code yX2_updates cX2_updates 5 none, .fieldLink RX2 39 "GracefulRestartModel" "learned" "[I", .fieldLink RX2 42 "GracefulRestartModel" "isStaleAt" "[Z"] ++ wsX20)
def wsX2_forgets : List Cond := .code yX2_forgets cX2_forgets 5 (some .int) :: ([.fieldLink RX2 39 "GracefulRestartModel" "learned" "[I", .fieldLink RX2 42 "GracefulRestartModel" "isStaleAt" "[Z"] ++ wsX20)
def wsX2_waiting : List Cond := .code yX2_waiting cX2_waiting 4 (some .int) :: ([.fieldLink RX2 55 "GracefulRestartModel" "peers" "I", .fieldLink RX2 19 "GracefulRestartModel" "isGraceful" "[Z", .fieldLink RX2 23 "GracefulRestartModel" "stateOf" "[I", .fieldLink RX2 33 "GracefulRestartModel" "hasMarked" "[Z"] ++ wsX20)
def wsX2_checksDeferral_r1 : List Cond := [Cond.fieldLink RX2 70 "GracefulRestartModel" "isDeferringNow" "Z", Cond.fieldLink RX2 78 "GracefulRestartModel" "deferralTimerNow" "I", Cond.fieldLink RX2 55 "GracefulRestartModel" "peers" "I", Cond.fieldLink RX2 23 "GracefulRestartModel" "stateOf" "[I", Cond.fieldLink RX2 30 "GracefulRestartModel" "staleTimerOf" "[I", Cond.methodLink RX2 74 yX2_waiting, Cond.instanceMethod yX2_waiting, Cond.selects RX2 yX2_waiting yX2_waiting, Cond.initialized RX2, Cond.code yX2_waiting cX2_waiting 4 (some .int), Cond.fieldLink RX2 19 "GracefulRestartModel" "isGraceful" "[Z", Cond.fieldLink RX2 33 "GracefulRestartModel" "hasMarked" "[Z", Cond.methodLink RX2 81 yX2_selectsAll, Cond.instanceMethod yX2_selectsAll, Cond.selects RX2 yX2_selectsAll yX2_selectsAll, Cond.code yX2_selectsAll cX2_selectsAll 2 none, Cond.methodLink RX2 66 yX2_selects, Cond.instanceMethod yX2_selects, Cond.selects RX2 yX2_selects yX2_selects, Cond.code yX2_selects cX2_selects 4 none, Cond.fieldLink RX2 45 "GracefulRestartModel" "hopOf" "[I", Cond.fieldLink RX2 48 "GracefulRestartModel" "isStaleHop" "[Z", Cond.methodLink RX2 58 yX2_bestPeer, Cond.instanceMethod yX2_bestPeer]
def wsX2_checksDeferral_r2 : List Cond := [Cond.selects RX2 yX2_bestPeer yX2_bestPeer, Cond.code yX2_bestPeer cX2_bestPeer 5 (some .int), Cond.fieldLink RX2 36 "GracefulRestartModel" "offered" "[I", Cond.methodLink RX2 62 yX2_updates, Cond.instanceMethod yX2_updates, Cond.selects RX2 yX2_updates yX2_updates, Cond.code yX2_updates cX2_updates 5 none, Cond.fieldLink RX2 39 "GracefulRestartModel" "learned" "[I", Cond.fieldLink RX2 42 "GracefulRestartModel" "isStaleAt" "[Z", Cond.methodLink RX2 84 yX2_forgets, Cond.instanceMethod yX2_forgets, Cond.selects RX2 yX2_forgets yX2_forgets, Cond.code yX2_forgets cX2_forgets 5 (some .int)]
def wsX2_checksDeferral : List Cond := .code yX2_checksDeferral cX2_checksDeferral 2 none :: ((wsX2_checksDeferral_r1 ++ wsX2_checksDeferral_r2) ++ wsX20)
def wsX2_addPeer_r1 : List Cond := [Cond.fieldLink RX2 55 "GracefulRestartModel" "peers" "I", Cond.fieldLink RX2 19 "GracefulRestartModel" "isGraceful" "[Z", Cond.fieldLink RX2 23 "GracefulRestartModel" "stateOf" "[I", Cond.fieldLink RX2 70 "GracefulRestartModel" "isDeferringNow" "Z", Cond.methodLink RX2 81 yX2_selectsAll, Cond.instanceMethod yX2_selectsAll, Cond.selects RX2 yX2_selectsAll yX2_selectsAll, Cond.initialized RX2, Cond.code yX2_selectsAll cX2_selectsAll 2 none, Cond.methodLink RX2 66 yX2_selects, Cond.instanceMethod yX2_selects, Cond.selects RX2 yX2_selects yX2_selects, Cond.code yX2_selects cX2_selects 4 none, Cond.fieldLink RX2 45 "GracefulRestartModel" "hopOf" "[I", Cond.fieldLink RX2 48 "GracefulRestartModel" "isStaleHop" "[Z", Cond.methodLink RX2 58 yX2_bestPeer, Cond.instanceMethod yX2_bestPeer, Cond.selects RX2 yX2_bestPeer yX2_bestPeer, Cond.code yX2_bestPeer cX2_bestPeer 5 (some .int), Cond.fieldLink RX2 36 "GracefulRestartModel" "offered" "[I", Cond.methodLink RX2 62 yX2_updates, Cond.instanceMethod yX2_updates, Cond.selects RX2 yX2_updates yX2_updates, Cond.code yX2_updates cX2_updates 5 none]
def wsX2_addPeer_r2 : List Cond := [Cond.fieldLink RX2 39 "GracefulRestartModel" "learned" "[I", Cond.fieldLink RX2 42 "GracefulRestartModel" "isStaleAt" "[Z"]
def wsX2_addPeer : List Cond := .code yX2_addPeer cX2_addPeer 2 (some .int) :: ((wsX2_addPeer_r1 ++ wsX2_addPeer_r2) ++ wsX20)
def wsX2_refused : List Cond := .code yX2_refused cX2_refused 4 (some .int) :: ([.methodLink RX2 88 yX2_isPeer, .instanceMethod yX2_isPeer, .selects RX2 yX2_isPeer yX2_isPeer, .initialized RX2, .code yX2_isPeer cX2_isPeer 2 (some .boolean), .fieldLink RX2 55 "GracefulRestartModel" "peers" "I", .methodLink RX2 51 yX2_within, .static yX2_within, .code yX2_within cX2_within 3 (some .boolean), .methodLink RX2 92 yX2_isRoute, .static yX2_isRoute, .code yX2_isRoute cX2_isRoute 2 (some .boolean)] ++ wsX20)
def wsX2_offers : List Cond := .code yX2_offers cX2_offers 4 none :: ([.fieldLink RX2 36 "GracefulRestartModel" "offered" "[I", .fieldLink RX2 70 "GracefulRestartModel" "isDeferringNow" "Z", .fieldLink RX2 23 "GracefulRestartModel" "stateOf" "[I", .methodLink RX2 66 yX2_selects, .instanceMethod yX2_selects, .selects RX2 yX2_selects yX2_selects, .initialized RX2, .code yX2_selects cX2_selects 4 none, .fieldLink RX2 45 "GracefulRestartModel" "hopOf" "[I", .fieldLink RX2 48 "GracefulRestartModel" "isStaleHop" "[Z", .fieldLink RX2 55 "GracefulRestartModel" "peers" "I", .methodLink RX2 58 yX2_bestPeer, .instanceMethod yX2_bestPeer, .selects RX2 yX2_bestPeer yX2_bestPeer, .code yX2_bestPeer cX2_bestPeer 5 (some .int), .methodLink RX2 62 yX2_updates, .instanceMethod yX2_updates, .selects RX2 yX2_updates yX2_updates, .code yX2_updates cX2_updates 5 none, .fieldLink RX2 39 "GracefulRestartModel" "learned" "[I", .fieldLink RX2 42 "GracefulRestartModel" "isStaleAt" "[Z"] ++ wsX20)
def wsX2_announce_r1 : List Cond := [Cond.fieldLink RX2 36 "GracefulRestartModel" "offered" "[I", Cond.methodLink RX2 96 yX2_refused, Cond.instanceMethod yX2_refused, Cond.selects RX2 yX2_refused yX2_refused, Cond.initialized RX2, Cond.code yX2_refused cX2_refused 4 (some .int), Cond.methodLink RX2 88 yX2_isPeer, Cond.instanceMethod yX2_isPeer, Cond.selects RX2 yX2_isPeer yX2_isPeer, Cond.code yX2_isPeer cX2_isPeer 2 (some .boolean), Cond.fieldLink RX2 55 "GracefulRestartModel" "peers" "I", Cond.methodLink RX2 51 yX2_within, Cond.static yX2_within, Cond.code yX2_within cX2_within 3 (some .boolean), Cond.methodLink RX2 92 yX2_isRoute, Cond.static yX2_isRoute, Cond.code yX2_isRoute cX2_isRoute 2 (some .boolean), Cond.methodLink RX2 100 yX2_offers, Cond.instanceMethod yX2_offers, Cond.selects RX2 yX2_offers yX2_offers, Cond.code yX2_offers cX2_offers 4 none, Cond.fieldLink RX2 70 "GracefulRestartModel" "isDeferringNow" "Z", Cond.fieldLink RX2 23 "GracefulRestartModel" "stateOf" "[I", Cond.methodLink RX2 66 yX2_selects]
def wsX2_announce_r2 : List Cond := [Cond.instanceMethod yX2_selects, Cond.selects RX2 yX2_selects yX2_selects, Cond.code yX2_selects cX2_selects 4 none, Cond.fieldLink RX2 45 "GracefulRestartModel" "hopOf" "[I", Cond.fieldLink RX2 48 "GracefulRestartModel" "isStaleHop" "[Z", Cond.methodLink RX2 58 yX2_bestPeer, Cond.instanceMethod yX2_bestPeer, Cond.selects RX2 yX2_bestPeer yX2_bestPeer, Cond.code yX2_bestPeer cX2_bestPeer 5 (some .int), Cond.methodLink RX2 62 yX2_updates, Cond.instanceMethod yX2_updates, Cond.selects RX2 yX2_updates yX2_updates, Cond.code yX2_updates cX2_updates 5 none, Cond.fieldLink RX2 39 "GracefulRestartModel" "learned" "[I", Cond.fieldLink RX2 42 "GracefulRestartModel" "isStaleAt" "[Z"]
def wsX2_announce : List Cond := .code yX2_announce cX2_announce 7 (some .int) :: ((wsX2_announce_r1 ++ wsX2_announce_r2) ++ wsX20)
def wsX2_withdraw_r1 : List Cond := [Cond.fieldLink RX2 36 "GracefulRestartModel" "offered" "[I", Cond.methodLink RX2 96 yX2_refused, Cond.instanceMethod yX2_refused, Cond.selects RX2 yX2_refused yX2_refused, Cond.initialized RX2, Cond.code yX2_refused cX2_refused 4 (some .int), Cond.methodLink RX2 88 yX2_isPeer, Cond.instanceMethod yX2_isPeer, Cond.selects RX2 yX2_isPeer yX2_isPeer, Cond.code yX2_isPeer cX2_isPeer 2 (some .boolean), Cond.fieldLink RX2 55 "GracefulRestartModel" "peers" "I", Cond.methodLink RX2 51 yX2_within, Cond.static yX2_within, Cond.code yX2_within cX2_within 3 (some .boolean), Cond.methodLink RX2 92 yX2_isRoute, Cond.static yX2_isRoute, Cond.code yX2_isRoute cX2_isRoute 2 (some .boolean), Cond.methodLink RX2 100 yX2_offers, Cond.instanceMethod yX2_offers, Cond.selects RX2 yX2_offers yX2_offers, Cond.code yX2_offers cX2_offers 4 none, Cond.fieldLink RX2 70 "GracefulRestartModel" "isDeferringNow" "Z", Cond.fieldLink RX2 23 "GracefulRestartModel" "stateOf" "[I", Cond.methodLink RX2 66 yX2_selects]
def wsX2_withdraw_r2 : List Cond := [Cond.instanceMethod yX2_selects, Cond.selects RX2 yX2_selects yX2_selects, Cond.code yX2_selects cX2_selects 4 none, Cond.fieldLink RX2 45 "GracefulRestartModel" "hopOf" "[I", Cond.fieldLink RX2 48 "GracefulRestartModel" "isStaleHop" "[Z", Cond.methodLink RX2 58 yX2_bestPeer, Cond.instanceMethod yX2_bestPeer, Cond.selects RX2 yX2_bestPeer yX2_bestPeer, Cond.code yX2_bestPeer cX2_bestPeer 5 (some .int), Cond.methodLink RX2 62 yX2_updates, Cond.instanceMethod yX2_updates, Cond.selects RX2 yX2_updates yX2_updates, Cond.code yX2_updates cX2_updates 5 none, Cond.fieldLink RX2 39 "GracefulRestartModel" "learned" "[I", Cond.fieldLink RX2 42 "GracefulRestartModel" "isStaleAt" "[Z"]
def wsX2_withdraw : List Cond := .code yX2_withdraw cX2_withdraw 6 (some .int) :: ((wsX2_withdraw_r1 ++ wsX2_withdraw_r2) ++ wsX20)
def wsX2_losesSession : List Cond := .code yX2_losesSession cX2_losesSession 3 none :: ([.fieldLink RX2 30 "GracefulRestartModel" "staleTimerOf" "[I", .fieldLink RX2 19 "GracefulRestartModel" "isGraceful" "[Z", .fieldLink RX2 23 "GracefulRestartModel" "stateOf" "[I", .fieldLink RX2 27 "GracefulRestartModel" "restartTimerOf" "[I", .fieldLink RX2 7 "GracefulRestartModel" "restartTime" "I", .fieldLink RX2 42 "GracefulRestartModel" "isStaleAt" "[Z", .fieldLink RX2 39 "GracefulRestartModel" "learned" "[I", .methodLink RX2 84 yX2_forgets, .instanceMethod yX2_forgets, .selects RX2 yX2_forgets yX2_forgets, .initialized RX2, .code yX2_forgets cX2_forgets 5 (some .int)] ++ wsX20)
def wsX2_restart_r1 : List Cond := [Cond.fieldLink RX2 55 "GracefulRestartModel" "peers" "I", Cond.fieldLink RX2 33 "GracefulRestartModel" "hasMarked" "[Z", Cond.fieldLink RX2 23 "GracefulRestartModel" "stateOf" "[I", Cond.fieldLink RX2 45 "GracefulRestartModel" "hopOf" "[I", Cond.fieldLink RX2 48 "GracefulRestartModel" "isStaleHop" "[Z", Cond.fieldLink RX2 70 "GracefulRestartModel" "isDeferringNow" "Z", Cond.fieldLink RX2 16 "GracefulRestartModel" "deferralTime" "I", Cond.fieldLink RX2 78 "GracefulRestartModel" "deferralTimerNow" "I", Cond.methodLink RX2 103 yX2_losesSession, Cond.instanceMethod yX2_losesSession, Cond.selects RX2 yX2_losesSession yX2_losesSession, Cond.initialized RX2, Cond.code yX2_losesSession cX2_losesSession 3 none, Cond.fieldLink RX2 30 "GracefulRestartModel" "staleTimerOf" "[I", Cond.fieldLink RX2 19 "GracefulRestartModel" "isGraceful" "[Z", Cond.fieldLink RX2 27 "GracefulRestartModel" "restartTimerOf" "[I", Cond.fieldLink RX2 7 "GracefulRestartModel" "restartTime" "I", Cond.fieldLink RX2 42 "GracefulRestartModel" "isStaleAt" "[Z", Cond.fieldLink RX2 39 "GracefulRestartModel" "learned" "[I", Cond.methodLink RX2 84 yX2_forgets, Cond.instanceMethod yX2_forgets, Cond.selects RX2 yX2_forgets yX2_forgets, Cond.code yX2_forgets cX2_forgets 5 (some .int), Cond.methodLink RX2 106 yX2_checksDeferral]
def wsX2_restart_r2 : List Cond := [Cond.instanceMethod yX2_checksDeferral, Cond.selects RX2 yX2_checksDeferral yX2_checksDeferral, Cond.code yX2_checksDeferral cX2_checksDeferral 2 none, Cond.methodLink RX2 74 yX2_waiting, Cond.instanceMethod yX2_waiting, Cond.selects RX2 yX2_waiting yX2_waiting, Cond.code yX2_waiting cX2_waiting 4 (some .int), Cond.methodLink RX2 81 yX2_selectsAll, Cond.instanceMethod yX2_selectsAll, Cond.selects RX2 yX2_selectsAll yX2_selectsAll, Cond.code yX2_selectsAll cX2_selectsAll 2 none, Cond.methodLink RX2 66 yX2_selects, Cond.instanceMethod yX2_selects, Cond.selects RX2 yX2_selects yX2_selects, Cond.code yX2_selects cX2_selects 4 none, Cond.methodLink RX2 58 yX2_bestPeer, Cond.instanceMethod yX2_bestPeer, Cond.selects RX2 yX2_bestPeer yX2_bestPeer, Cond.code yX2_bestPeer cX2_bestPeer 5 (some .int), Cond.fieldLink RX2 36 "GracefulRestartModel" "offered" "[I", Cond.methodLink RX2 62 yX2_updates, Cond.instanceMethod yX2_updates, Cond.selects RX2 yX2_updates yX2_updates, Cond.code yX2_updates cX2_updates 5 none]
def wsX2_restart : List Cond := .code yX2_restart cX2_restart 4 (some .int) :: ((wsX2_restart_r1 ++ wsX2_restart_r2) ++ wsX20)
def wsX2_known : List Cond := .code yX2_known cX2_known 4 (some .int) :: ([.fieldLink RX2 36 "GracefulRestartModel" "offered" "[I"] ++ wsX20)
def wsX2_reconnect_r1 : List Cond := [Cond.fieldLink RX2 23 "GracefulRestartModel" "stateOf" "[I", Cond.fieldLink RX2 27 "GracefulRestartModel" "restartTimerOf" "[I", Cond.fieldLink RX2 30 "GracefulRestartModel" "staleTimerOf" "[I", Cond.fieldLink RX2 13 "GracefulRestartModel" "staleTime" "I", Cond.fieldLink RX2 70 "GracefulRestartModel" "isDeferringNow" "Z", Cond.methodLink RX2 88 yX2_isPeer, Cond.instanceMethod yX2_isPeer, Cond.selects RX2 yX2_isPeer yX2_isPeer, Cond.initialized RX2, Cond.code yX2_isPeer cX2_isPeer 2 (some .boolean), Cond.fieldLink RX2 55 "GracefulRestartModel" "peers" "I", Cond.methodLink RX2 51 yX2_within, Cond.static yX2_within, Cond.code yX2_within cX2_within 3 (some .boolean), Cond.methodLink RX2 81 yX2_selectsAll, Cond.instanceMethod yX2_selectsAll, Cond.selects RX2 yX2_selectsAll yX2_selectsAll, Cond.code yX2_selectsAll cX2_selectsAll 2 none, Cond.methodLink RX2 66 yX2_selects, Cond.instanceMethod yX2_selects, Cond.selects RX2 yX2_selects yX2_selects, Cond.code yX2_selects cX2_selects 4 none, Cond.fieldLink RX2 45 "GracefulRestartModel" "hopOf" "[I", Cond.fieldLink RX2 48 "GracefulRestartModel" "isStaleHop" "[Z"]
def wsX2_reconnect_r2 : List Cond := [Cond.methodLink RX2 58 yX2_bestPeer, Cond.instanceMethod yX2_bestPeer, Cond.selects RX2 yX2_bestPeer yX2_bestPeer, Cond.code yX2_bestPeer cX2_bestPeer 5 (some .int), Cond.fieldLink RX2 36 "GracefulRestartModel" "offered" "[I", Cond.methodLink RX2 62 yX2_updates, Cond.instanceMethod yX2_updates, Cond.selects RX2 yX2_updates yX2_updates, Cond.code yX2_updates cX2_updates 5 none, Cond.fieldLink RX2 39 "GracefulRestartModel" "learned" "[I", Cond.fieldLink RX2 42 "GracefulRestartModel" "isStaleAt" "[Z", Cond.methodLink RX2 84 yX2_forgets, Cond.instanceMethod yX2_forgets, Cond.selects RX2 yX2_forgets yX2_forgets, Cond.code yX2_forgets cX2_forgets 5 (some .int), Cond.methodLink RX2 106 yX2_checksDeferral, Cond.instanceMethod yX2_checksDeferral, Cond.selects RX2 yX2_checksDeferral yX2_checksDeferral, Cond.code yX2_checksDeferral cX2_checksDeferral 2 none, Cond.fieldLink RX2 78 "GracefulRestartModel" "deferralTimerNow" "I", Cond.methodLink RX2 74 yX2_waiting, Cond.instanceMethod yX2_waiting, Cond.selects RX2 yX2_waiting yX2_waiting, Cond.code yX2_waiting cX2_waiting 4 (some .int)]
def wsX2_reconnect_r3 : List Cond := [Cond.fieldLink RX2 19 "GracefulRestartModel" "isGraceful" "[Z", Cond.fieldLink RX2 33 "GracefulRestartModel" "hasMarked" "[Z", Cond.methodLink RX2 109 yX2_known, Cond.instanceMethod yX2_known, Cond.selects RX2 yX2_known yX2_known, Cond.code yX2_known cX2_known 4 (some .int)]
def wsX2_reconnect : List Cond := .code yX2_reconnect cX2_reconnect 2 (some .int) :: ((wsX2_reconnect_r1 ++ (wsX2_reconnect_r2 ++ wsX2_reconnect_r3)) ++ wsX20)
def wsX2_disconnect_r1 : List Cond := [Cond.fieldLink RX2 23 "GracefulRestartModel" "stateOf" "[I", Cond.fieldLink RX2 27 "GracefulRestartModel" "restartTimerOf" "[I", Cond.fieldLink RX2 30 "GracefulRestartModel" "staleTimerOf" "[I", Cond.fieldLink RX2 70 "GracefulRestartModel" "isDeferringNow" "Z", Cond.methodLink RX2 88 yX2_isPeer, Cond.instanceMethod yX2_isPeer, Cond.selects RX2 yX2_isPeer yX2_isPeer, Cond.initialized RX2, Cond.code yX2_isPeer cX2_isPeer 2 (some .boolean), Cond.fieldLink RX2 55 "GracefulRestartModel" "peers" "I", Cond.methodLink RX2 51 yX2_within, Cond.static yX2_within, Cond.code yX2_within cX2_within 3 (some .boolean), Cond.methodLink RX2 84 yX2_forgets, Cond.instanceMethod yX2_forgets, Cond.selects RX2 yX2_forgets yX2_forgets, Cond.code yX2_forgets cX2_forgets 5 (some .int), Cond.fieldLink RX2 39 "GracefulRestartModel" "learned" "[I", Cond.fieldLink RX2 42 "GracefulRestartModel" "isStaleAt" "[Z", Cond.methodLink RX2 81 yX2_selectsAll, Cond.instanceMethod yX2_selectsAll, Cond.selects RX2 yX2_selectsAll yX2_selectsAll, Cond.code yX2_selectsAll cX2_selectsAll 2 none, Cond.methodLink RX2 66 yX2_selects]
def wsX2_disconnect_r2 : List Cond := [Cond.instanceMethod yX2_selects, Cond.selects RX2 yX2_selects yX2_selects, Cond.code yX2_selects cX2_selects 4 none, Cond.fieldLink RX2 45 "GracefulRestartModel" "hopOf" "[I", Cond.fieldLink RX2 48 "GracefulRestartModel" "isStaleHop" "[Z", Cond.methodLink RX2 58 yX2_bestPeer, Cond.instanceMethod yX2_bestPeer, Cond.selects RX2 yX2_bestPeer yX2_bestPeer, Cond.code yX2_bestPeer cX2_bestPeer 5 (some .int), Cond.fieldLink RX2 36 "GracefulRestartModel" "offered" "[I", Cond.methodLink RX2 62 yX2_updates, Cond.instanceMethod yX2_updates, Cond.selects RX2 yX2_updates yX2_updates, Cond.code yX2_updates cX2_updates 5 none, Cond.methodLink RX2 106 yX2_checksDeferral, Cond.instanceMethod yX2_checksDeferral, Cond.selects RX2 yX2_checksDeferral yX2_checksDeferral, Cond.code yX2_checksDeferral cX2_checksDeferral 2 none, Cond.fieldLink RX2 78 "GracefulRestartModel" "deferralTimerNow" "I", Cond.methodLink RX2 74 yX2_waiting, Cond.instanceMethod yX2_waiting, Cond.selects RX2 yX2_waiting yX2_waiting, Cond.code yX2_waiting cX2_waiting 4 (some .int), Cond.fieldLink RX2 19 "GracefulRestartModel" "isGraceful" "[Z"]
def wsX2_disconnect_r3 : List Cond := [Cond.fieldLink RX2 33 "GracefulRestartModel" "hasMarked" "[Z"]
def wsX2_disconnect : List Cond := .code yX2_disconnect cX2_disconnect 3 (some .int) :: ((wsX2_disconnect_r1 ++ (wsX2_disconnect_r2 ++ wsX2_disconnect_r3)) ++ wsX20)
def wsX2_endOfTable_r1 : List Cond := [Cond.fieldLink RX2 23 "GracefulRestartModel" "stateOf" "[I", Cond.fieldLink RX2 33 "GracefulRestartModel" "hasMarked" "[Z", Cond.methodLink RX2 88 yX2_isPeer, Cond.instanceMethod yX2_isPeer, Cond.selects RX2 yX2_isPeer yX2_isPeer, Cond.initialized RX2, Cond.code yX2_isPeer cX2_isPeer 2 (some .boolean), Cond.fieldLink RX2 55 "GracefulRestartModel" "peers" "I", Cond.methodLink RX2 51 yX2_within, Cond.static yX2_within, Cond.code yX2_within cX2_within 3 (some .boolean), Cond.methodLink RX2 106 yX2_checksDeferral, Cond.instanceMethod yX2_checksDeferral, Cond.selects RX2 yX2_checksDeferral yX2_checksDeferral, Cond.code yX2_checksDeferral cX2_checksDeferral 2 none, Cond.fieldLink RX2 70 "GracefulRestartModel" "isDeferringNow" "Z", Cond.fieldLink RX2 78 "GracefulRestartModel" "deferralTimerNow" "I", Cond.fieldLink RX2 30 "GracefulRestartModel" "staleTimerOf" "[I", Cond.methodLink RX2 74 yX2_waiting, Cond.instanceMethod yX2_waiting, Cond.selects RX2 yX2_waiting yX2_waiting, Cond.code yX2_waiting cX2_waiting 4 (some .int), Cond.fieldLink RX2 19 "GracefulRestartModel" "isGraceful" "[Z", Cond.methodLink RX2 81 yX2_selectsAll]
def wsX2_endOfTable_r2 : List Cond := [Cond.instanceMethod yX2_selectsAll, Cond.selects RX2 yX2_selectsAll yX2_selectsAll, Cond.code yX2_selectsAll cX2_selectsAll 2 none, Cond.methodLink RX2 66 yX2_selects, Cond.instanceMethod yX2_selects, Cond.selects RX2 yX2_selects yX2_selects, Cond.code yX2_selects cX2_selects 4 none, Cond.fieldLink RX2 45 "GracefulRestartModel" "hopOf" "[I", Cond.fieldLink RX2 48 "GracefulRestartModel" "isStaleHop" "[Z", Cond.methodLink RX2 58 yX2_bestPeer, Cond.instanceMethod yX2_bestPeer, Cond.selects RX2 yX2_bestPeer yX2_bestPeer, Cond.code yX2_bestPeer cX2_bestPeer 5 (some .int), Cond.fieldLink RX2 36 "GracefulRestartModel" "offered" "[I", Cond.methodLink RX2 62 yX2_updates, Cond.instanceMethod yX2_updates, Cond.selects RX2 yX2_updates yX2_updates, Cond.code yX2_updates cX2_updates 5 none, Cond.fieldLink RX2 39 "GracefulRestartModel" "learned" "[I", Cond.fieldLink RX2 42 "GracefulRestartModel" "isStaleAt" "[Z", Cond.methodLink RX2 84 yX2_forgets, Cond.instanceMethod yX2_forgets, Cond.selects RX2 yX2_forgets yX2_forgets, Cond.code yX2_forgets cX2_forgets 5 (some .int)]
def wsX2_endOfTable : List Cond := .code yX2_endOfTable cX2_endOfTable 3 (some .int) :: ((wsX2_endOfTable_r1 ++ wsX2_endOfTable_r2) ++ wsX20)
def wsX2_ages : List Cond := .code yX2_ages cX2_ages 3 (some .int) :: ([.fieldLink RX2 27 "GracefulRestartModel" "restartTimerOf" "[I", .fieldLink RX2 23 "GracefulRestartModel" "stateOf" "[I", .fieldLink RX2 30 "GracefulRestartModel" "staleTimerOf" "[I", .methodLink RX2 84 yX2_forgets, .instanceMethod yX2_forgets, .selects RX2 yX2_forgets yX2_forgets, .initialized RX2, .code yX2_forgets cX2_forgets 5 (some .int), .fieldLink RX2 39 "GracefulRestartModel" "learned" "[I", .fieldLink RX2 42 "GracefulRestartModel" "isStaleAt" "[Z"] ++ wsX20)
def wsX2_tick_r1 : List Cond := [Cond.fieldLink RX2 55 "GracefulRestartModel" "peers" "I", Cond.fieldLink RX2 78 "GracefulRestartModel" "deferralTimerNow" "I", Cond.methodLink RX2 51 yX2_within, Cond.static yX2_within, Cond.initialized RX2, Cond.code yX2_within cX2_within 3 (some .boolean), Cond.methodLink RX2 112 yX2_ages, Cond.instanceMethod yX2_ages, Cond.selects RX2 yX2_ages yX2_ages, Cond.code yX2_ages cX2_ages 3 (some .int), Cond.fieldLink RX2 27 "GracefulRestartModel" "restartTimerOf" "[I", Cond.fieldLink RX2 23 "GracefulRestartModel" "stateOf" "[I", Cond.fieldLink RX2 30 "GracefulRestartModel" "staleTimerOf" "[I", Cond.methodLink RX2 84 yX2_forgets, Cond.instanceMethod yX2_forgets, Cond.selects RX2 yX2_forgets yX2_forgets, Cond.code yX2_forgets cX2_forgets 5 (some .int), Cond.fieldLink RX2 39 "GracefulRestartModel" "learned" "[I", Cond.fieldLink RX2 42 "GracefulRestartModel" "isStaleAt" "[Z", Cond.methodLink RX2 106 yX2_checksDeferral, Cond.instanceMethod yX2_checksDeferral, Cond.selects RX2 yX2_checksDeferral yX2_checksDeferral, Cond.code yX2_checksDeferral cX2_checksDeferral 2 none, Cond.fieldLink RX2 70 "GracefulRestartModel" "isDeferringNow" "Z"]
def wsX2_tick_r2 : List Cond := [Cond.methodLink RX2 74 yX2_waiting, Cond.instanceMethod yX2_waiting, Cond.selects RX2 yX2_waiting yX2_waiting, Cond.code yX2_waiting cX2_waiting 4 (some .int), Cond.fieldLink RX2 19 "GracefulRestartModel" "isGraceful" "[Z", Cond.fieldLink RX2 33 "GracefulRestartModel" "hasMarked" "[Z", Cond.methodLink RX2 81 yX2_selectsAll, Cond.instanceMethod yX2_selectsAll, Cond.selects RX2 yX2_selectsAll yX2_selectsAll, Cond.code yX2_selectsAll cX2_selectsAll 2 none, Cond.methodLink RX2 66 yX2_selects, Cond.instanceMethod yX2_selects, Cond.selects RX2 yX2_selects yX2_selects, Cond.code yX2_selects cX2_selects 4 none, Cond.fieldLink RX2 45 "GracefulRestartModel" "hopOf" "[I", Cond.fieldLink RX2 48 "GracefulRestartModel" "isStaleHop" "[Z", Cond.methodLink RX2 58 yX2_bestPeer, Cond.instanceMethod yX2_bestPeer, Cond.selects RX2 yX2_bestPeer yX2_bestPeer, Cond.code yX2_bestPeer cX2_bestPeer 5 (some .int), Cond.fieldLink RX2 36 "GracefulRestartModel" "offered" "[I", Cond.methodLink RX2 62 yX2_updates, Cond.instanceMethod yX2_updates, Cond.selects RX2 yX2_updates yX2_updates]
def wsX2_tick_r3 : List Cond := [Cond.code yX2_updates cX2_updates 5 none]
def wsX2_tick : List Cond := .code yX2_tick cX2_tick 5 (some .int) :: ((wsX2_tick_r1 ++ (wsX2_tick_r2 ++ wsX2_tick_r3)) ++ wsX20)
def wsX2_isDeferring : List Cond := .code yX2_isDeferring cX2_isDeferring 1 (some .int) :: ([.fieldLink RX2 70 "GracefulRestartModel" "isDeferringNow" "Z"] ++ wsX20)
def wsX2_deferralTimer : List Cond := .code yX2_deferralTimer cX2_deferralTimer 1 (some .int) :: ([.fieldLink RX2 78 "GracefulRestartModel" "deferralTimerNow" "I"] ++ wsX20)
def wsX2_waitingPeers : List Cond := .code yX2_waitingPeers cX2_waitingPeers 1 (some .int) :: ([.fieldLink RX2 70 "GracefulRestartModel" "isDeferringNow" "Z", .methodLink RX2 74 yX2_waiting, .instanceMethod yX2_waiting, .selects RX2 yX2_waiting yX2_waiting, .initialized RX2, .code yX2_waiting cX2_waiting 4 (some .int), .fieldLink RX2 55 "GracefulRestartModel" "peers" "I", .fieldLink RX2 19 "GracefulRestartModel" "isGraceful" "[Z", .fieldLink RX2 23 "GracefulRestartModel" "stateOf" "[I", .fieldLink RX2 33 "GracefulRestartModel" "hasMarked" "[Z"] ++ wsX20)
def wsX2_nextHop : List Cond := .code yX2_nextHop cX2_nextHop 3 (some .int) :: ([.fieldLink RX2 45 "GracefulRestartModel" "hopOf" "[I", .methodLink RX2 92 yX2_isRoute, .static yX2_isRoute, .initialized RX2, .code yX2_isRoute cX2_isRoute 2 (some .boolean), .methodLink RX2 51 yX2_within, .static yX2_within, .code yX2_within cX2_within 3 (some .boolean)] ++ wsX20)
def wsX2_isEntryStale : List Cond := .code yX2_isEntryStale cX2_isEntryStale 4 (some .int) :: ([.fieldLink RX2 45 "GracefulRestartModel" "hopOf" "[I", .fieldLink RX2 48 "GracefulRestartModel" "isStaleHop" "[Z", .methodLink RX2 92 yX2_isRoute, .static yX2_isRoute, .initialized RX2, .code yX2_isRoute cX2_isRoute 2 (some .boolean), .methodLink RX2 51 yX2_within, .static yX2_within, .code yX2_within cX2_within 3 (some .boolean)] ++ wsX20)
def wsX2_sessionState : List Cond := .code yX2_sessionState cX2_sessionState 2 (some .int) :: ([.fieldLink RX2 23 "GracefulRestartModel" "stateOf" "[I", .methodLink RX2 88 yX2_isPeer, .instanceMethod yX2_isPeer, .selects RX2 yX2_isPeer yX2_isPeer, .initialized RX2, .code yX2_isPeer cX2_isPeer 2 (some .boolean), .fieldLink RX2 55 "GracefulRestartModel" "peers" "I", .methodLink RX2 51 yX2_within, .static yX2_within, .code yX2_within cX2_within 3 (some .boolean)] ++ wsX20)
def wsX2_restartTimer : List Cond := .code yX2_restartTimer cX2_restartTimer 2 (some .int) :: ([.fieldLink RX2 27 "GracefulRestartModel" "restartTimerOf" "[I", .methodLink RX2 88 yX2_isPeer, .instanceMethod yX2_isPeer, .selects RX2 yX2_isPeer yX2_isPeer, .initialized RX2, .code yX2_isPeer cX2_isPeer 2 (some .boolean), .fieldLink RX2 55 "GracefulRestartModel" "peers" "I", .methodLink RX2 51 yX2_within, .static yX2_within, .code yX2_within cX2_within 3 (some .boolean)] ++ wsX20)
def wsX2_staleTimer : List Cond := .code yX2_staleTimer cX2_staleTimer 2 (some .int) :: ([.fieldLink RX2 30 "GracefulRestartModel" "staleTimerOf" "[I", .methodLink RX2 88 yX2_isPeer, .instanceMethod yX2_isPeer, .selects RX2 yX2_isPeer yX2_isPeer, .initialized RX2, .code yX2_isPeer cX2_isPeer 2 (some .boolean), .fieldLink RX2 55 "GracefulRestartModel" "peers" "I", .methodLink RX2 51 yX2_within, .static yX2_within, .code yX2_within cX2_within 3 (some .boolean)] ++ wsX20)
def wsX2_learnedLength : List Cond := .code yX2_learnedLength cX2_learnedLength 6 (some .int) :: ([.fieldLink RX2 39 "GracefulRestartModel" "learned" "[I", .methodLink RX2 96 yX2_refused, .instanceMethod yX2_refused, .selects RX2 yX2_refused yX2_refused, .initialized RX2, .code yX2_refused cX2_refused 4 (some .int), .methodLink RX2 88 yX2_isPeer, .instanceMethod yX2_isPeer, .selects RX2 yX2_isPeer yX2_isPeer, .code yX2_isPeer cX2_isPeer 2 (some .boolean), .fieldLink RX2 55 "GracefulRestartModel" "peers" "I", .methodLink RX2 51 yX2_within, .static yX2_within, .code yX2_within cX2_within 3 (some .boolean), .methodLink RX2 92 yX2_isRoute, .static yX2_isRoute, .code yX2_isRoute cX2_isRoute 2 (some .boolean)] ++ wsX20)
def wsX2_isLearnedStale : List Cond := .code yX2_isLearnedStale cX2_isLearnedStale 6 (some .int) :: ([.fieldLink RX2 39 "GracefulRestartModel" "learned" "[I", .fieldLink RX2 42 "GracefulRestartModel" "isStaleAt" "[Z", .methodLink RX2 96 yX2_refused, .instanceMethod yX2_refused, .selects RX2 yX2_refused yX2_refused, .initialized RX2, .code yX2_refused cX2_refused 4 (some .int), .methodLink RX2 88 yX2_isPeer, .instanceMethod yX2_isPeer, .selects RX2 yX2_isPeer yX2_isPeer, .code yX2_isPeer cX2_isPeer 2 (some .boolean), .fieldLink RX2 55 "GracefulRestartModel" "peers" "I", .methodLink RX2 51 yX2_within, .static yX2_within, .code yX2_within cX2_within 3 (some .boolean), .methodLink RX2 92 yX2_isRoute, .static yX2_isRoute, .code yX2_isRoute cX2_isRoute 2 (some .boolean)] ++ wsX20)
def wsX2_forwards : List Cond := .code yX2_forwards cX2_forwards 3 (some .int) :: ([.fieldLink RX2 39 "GracefulRestartModel" "learned" "[I", .fieldLink RX2 45 "GracefulRestartModel" "hopOf" "[I"] ++ wsX20)
def wsX2_forward : List Cond := .code yX2_forward cX2_forward 5 (some .int) :: ([.methodLink RX2 96 yX2_refused, .instanceMethod yX2_refused, .selects RX2 yX2_refused yX2_refused, .initialized RX2, .code yX2_refused cX2_refused 4 (some .int), .methodLink RX2 88 yX2_isPeer, .instanceMethod yX2_isPeer, .selects RX2 yX2_isPeer yX2_isPeer, .code yX2_isPeer cX2_isPeer 2 (some .boolean), .fieldLink RX2 55 "GracefulRestartModel" "peers" "I", .methodLink RX2 51 yX2_within, .static yX2_within, .code yX2_within cX2_within 3 (some .boolean), .methodLink RX2 92 yX2_isRoute, .static yX2_isRoute, .code yX2_isRoute cX2_isRoute 2 (some .boolean), .methodLink RX2 115 yX2_forwards, .instanceMethod yX2_forwards, .selects RX2 yX2_forwards yX2_forwards, .code yX2_forwards cX2_forwards 3 (some .int), .fieldLink RX2 39 "GracefulRestartModel" "learned" "[I", .fieldLink RX2 45 "GracefulRestartModel" "hopOf" "[I"] ++ wsX20)
def wsX2_reachableCount : List Cond := .code yX2_reachableCount cX2_reachableCount 4 (some .int) :: ([.methodLink RX2 88 yX2_isPeer, .instanceMethod yX2_isPeer, .selects RX2 yX2_isPeer yX2_isPeer, .initialized RX2, .code yX2_isPeer cX2_isPeer 2 (some .boolean), .fieldLink RX2 55 "GracefulRestartModel" "peers" "I", .methodLink RX2 51 yX2_within, .static yX2_within, .code yX2_within cX2_within 3 (some .boolean), .methodLink RX2 115 yX2_forwards, .instanceMethod yX2_forwards, .selects RX2 yX2_forwards yX2_forwards, .code yX2_forwards cX2_forwards 3 (some .int), .fieldLink RX2 39 "GracefulRestartModel" "learned" "[I", .fieldLink RX2 45 "GracefulRestartModel" "hopOf" "[I"] ++ wsX20)
def wsX2_loopCount : List Cond := .code yX2_loopCount cX2_loopCount 3 (some .int) :: ([.fieldLink RX2 55 "GracefulRestartModel" "peers" "I", .methodLink RX2 115 yX2_forwards, .instanceMethod yX2_forwards, .selects RX2 yX2_forwards yX2_forwards, .initialized RX2, .code yX2_forwards cX2_forwards 3 (some .int), .fieldLink RX2 39 "GracefulRestartModel" "learned" "[I", .fieldLink RX2 45 "GracefulRestartModel" "hopOf" "[I"] ++ wsX20)
def wsL_law_r1 : List Cond := [Cond.classLink RL 7 RX1, Cond.instantiable RX1 9, Cond.initialized RX1, Cond.classLink RL 10 RX2, Cond.instantiable RX2 16, Cond.initialized RX2, Cond.methodLink RL 9 yX1_init, Cond.instanceMethod yX1_init, Cond.code yX1_init cX1_init 2 none, Cond.methodLink RX1 3 objectInit, Cond.instanceMethod objectInit, Cond.code objectInit ⟨#[0xb1]⟩ 1 none, Cond.classLink RX1 9 RX0, Cond.fieldLink RX1 11 "GracefulRestart" "peers" "[LGracefulRestart$Peer;", Cond.arrayClass .int, Cond.fieldLink RX1 15 "GracefulRestart" "hops" "[I", Cond.arrayClass .boolean, Cond.fieldLink RX1 19 "GracefulRestart" "staleHops" "[Z", Cond.fieldLink RX1 23 "GracefulRestart" "peerCount" "I", Cond.fieldLink RX1 27 "GracefulRestart" "restartTime" "I", Cond.fieldLink RX1 30 "GracefulRestart" "staleTime" "I", Cond.fieldLink RX1 33 "GracefulRestart" "deferralTime" "I", Cond.fieldLink RX1 36 "GracefulRestart" "deferring" "Z", Cond.fieldLink RX1 40 "GracefulRestart" "deferralLeft" "I"]
def wsL_law_r2 : List Cond := [Cond.methodLink RL 12 yX2_init, Cond.instanceMethod yX2_init, Cond.code yX2_init cX2_init 2 none, Cond.methodLink RX2 1 objectInit, Cond.fieldLink RX2 7 "GracefulRestartModel" "restartTime" "I", Cond.fieldLink RX2 13 "GracefulRestartModel" "staleTime" "I", Cond.fieldLink RX2 16 "GracefulRestartModel" "deferralTime" "I", Cond.fieldLink RX2 19 "GracefulRestartModel" "isGraceful" "[Z", Cond.fieldLink RX2 23 "GracefulRestartModel" "stateOf" "[I", Cond.fieldLink RX2 27 "GracefulRestartModel" "restartTimerOf" "[I", Cond.fieldLink RX2 30 "GracefulRestartModel" "staleTimerOf" "[I", Cond.fieldLink RX2 33 "GracefulRestartModel" "hasMarked" "[Z", Cond.fieldLink RX2 36 "GracefulRestartModel" "offered" "[I", Cond.fieldLink RX2 39 "GracefulRestartModel" "learned" "[I", Cond.fieldLink RX2 42 "GracefulRestartModel" "isStaleAt" "[Z", Cond.fieldLink RX2 45 "GracefulRestartModel" "hopOf" "[I", Cond.fieldLink RX2 48 "GracefulRestartModel" "isStaleHop" "[Z", Cond.methodLink RL 13 yX1_setRestartTime, Cond.instanceMethod yX1_setRestartTime, Cond.selects RX1 yX1_setRestartTime yX1_setRestartTime, Cond.code yX1_setRestartTime cX1_setRestartTime 3 (some .int), Cond.methodLink RX1 43 yX1_isTime, Cond.static yX1_isTime, Cond.code yX1_isTime cX1_isTime 1 (some .boolean)]
def wsL_law_r3 : List Cond := [Cond.methodLink RL 17 yX2_setRestartTime, Cond.instanceMethod yX2_setRestartTime, Cond.selects RX2 yX2_setRestartTime yX2_setRestartTime, Cond.code yX2_setRestartTime cX2_setRestartTime 3 (some .int), Cond.methodLink RX2 51 yX2_within, Cond.static yX2_within, Cond.code yX2_within cX2_within 3 (some .boolean), Cond.methodLink RL 18 yX1_setStaleTime, Cond.instanceMethod yX1_setStaleTime, Cond.selects RX1 yX1_setStaleTime yX1_setStaleTime, Cond.code yX1_setStaleTime cX1_setStaleTime 3 (some .int), Cond.methodLink RL 21 yX2_setStaleTime, Cond.instanceMethod yX2_setStaleTime, Cond.selects RX2 yX2_setStaleTime yX2_setStaleTime, Cond.code yX2_setStaleTime cX2_setStaleTime 3 (some .int), Cond.methodLink RL 22 yX1_setDeferralTime, Cond.instanceMethod yX1_setDeferralTime, Cond.selects RX1 yX1_setDeferralTime yX1_setDeferralTime, Cond.code yX1_setDeferralTime cX1_setDeferralTime 3 (some .int), Cond.methodLink RL 25 yX2_setDeferralTime, Cond.instanceMethod yX2_setDeferralTime, Cond.selects RX2 yX2_setDeferralTime yX2_setDeferralTime, Cond.code yX2_setDeferralTime cX2_setDeferralTime 3 (some .int), Cond.methodLink RL 26 yX1_addPeer]
def wsL_law_r4 : List Cond := [Cond.instanceMethod yX1_addPeer, Cond.selects RX1 yX1_addPeer yX1_addPeer, Cond.code yX1_addPeer cX1_addPeer 3 (some .int), Cond.instantiable RX0 8, Cond.initialized RX0, Cond.instanceMethod yX0_init, Cond.code yX0_init cX0_init 2 none, Cond.methodLink RX0 3 objectInit, Cond.fieldLink RX0 9 "GracefulRestart$Peer" "graceful" "Z", Cond.fieldLink RX0 15 "GracefulRestart$Peer" "offers" "[I", Cond.fieldLink RX0 19 "GracefulRestart$Peer" "learned" "[I", Cond.fieldLink RX0 22 "GracefulRestart$Peer" "staleLearned" "[Z", Cond.fieldLink RX0 26 "GracefulRestart$Peer" "state" "I", Cond.fieldLink RX0 30 "GracefulRestart$Peer" "restartLeft" "I", Cond.fieldLink RX0 33 "GracefulRestart$Peer" "staleLeft" "I", Cond.fieldLink RX0 36 "GracefulRestart$Peer" "marks" "I", Cond.methodLink RX1 50 yX1_selectAll, Cond.instanceMethod yX1_selectAll, Cond.selects RX1 yX1_selectAll yX1_selectAll, Cond.code yX1_selectAll cX1_selectAll 2 none, Cond.methodLink RX1 127 yX1_select, Cond.instanceMethod yX1_select, Cond.selects RX1 yX1_select yX1_select, Cond.code yX1_select cX1_select 7 none]
def wsL_law_r5 : List Cond := [Cond.instanceMethod yX0_knownOffer, Cond.selects RX0 yX0_knownOffer yX0_knownOffer, Cond.code yX0_knownOffer cX0_knownOffer 2 (some .int), Cond.methodLink RX1 134 yX1_advertise, Cond.instanceMethod yX1_advertise, Cond.selects RX1 yX1_advertise yX1_advertise, Cond.code yX1_advertise cX1_advertise 6 none, Cond.instanceMethod yX0_hearNothing, Cond.selects RX0 yX0_hearNothing yX0_hearNothing, Cond.code yX0_hearNothing cX0_hearNothing 2 none, Cond.instanceMethod yX0_learn, Cond.selects RX0 yX0_learn yX0_learn, Cond.code yX0_learn cX0_learn 3 none, Cond.methodLink RL 30 yX2_addPeer, Cond.instanceMethod yX2_addPeer, Cond.selects RX2 yX2_addPeer yX2_addPeer, Cond.code yX2_addPeer cX2_addPeer 2 (some .int), Cond.fieldLink RX2 55 "GracefulRestartModel" "peers" "I", Cond.fieldLink RX2 70 "GracefulRestartModel" "isDeferringNow" "Z", Cond.methodLink RX2 81 yX2_selectsAll, Cond.instanceMethod yX2_selectsAll, Cond.selects RX2 yX2_selectsAll yX2_selectsAll, Cond.code yX2_selectsAll cX2_selectsAll 2 none, Cond.methodLink RX2 66 yX2_selects]
def wsL_law_r6 : List Cond := [Cond.instanceMethod yX2_selects, Cond.selects RX2 yX2_selects yX2_selects, Cond.code yX2_selects cX2_selects 4 none, Cond.methodLink RX2 58 yX2_bestPeer, Cond.instanceMethod yX2_bestPeer, Cond.selects RX2 yX2_bestPeer yX2_bestPeer, Cond.code yX2_bestPeer cX2_bestPeer 5 (some .int), Cond.methodLink RX2 62 yX2_updates, Cond.instanceMethod yX2_updates, Cond.selects RX2 yX2_updates yX2_updates, Cond.code yX2_updates cX2_updates 5 none, Cond.methodLink RL 31 yX1_announce, Cond.instanceMethod yX1_announce, Cond.selects RX1 yX1_announce yX1_announce, Cond.code yX1_announce cX1_announce 8 (some .int), Cond.methodLink RX1 53 yX1_findPeer, Cond.instanceMethod yX1_findPeer, Cond.selects RX1 yX1_findPeer yX1_findPeer, Cond.code yX1_findPeer cX1_findPeer 2 (some (.object "GracefulRestart$Peer")), Cond.methodLink RX1 57 yX1_routeOf, Cond.static yX1_routeOf, Cond.code yX1_routeOf cX1_routeOf 2 (some .int), Cond.methodLink RX1 64 yX1_selectAfterOffer, Cond.instanceMethod yX1_selectAfterOffer]
def wsL_law_r7 : List Cond := [Cond.selects RX1 yX1_selectAfterOffer yX1_selectAfterOffer, Cond.code yX1_selectAfterOffer cX1_selectAfterOffer 3 none, Cond.methodLink RL 35 yX2_announce, Cond.instanceMethod yX2_announce, Cond.selects RX2 yX2_announce yX2_announce, Cond.code yX2_announce cX2_announce 7 (some .int), Cond.methodLink RX2 96 yX2_refused, Cond.instanceMethod yX2_refused, Cond.selects RX2 yX2_refused yX2_refused, Cond.code yX2_refused cX2_refused 4 (some .int), Cond.methodLink RX2 88 yX2_isPeer, Cond.instanceMethod yX2_isPeer, Cond.selects RX2 yX2_isPeer yX2_isPeer, Cond.code yX2_isPeer cX2_isPeer 2 (some .boolean), Cond.methodLink RX2 92 yX2_isRoute, Cond.static yX2_isRoute, Cond.code yX2_isRoute cX2_isRoute 2 (some .boolean), Cond.methodLink RX2 100 yX2_offers, Cond.instanceMethod yX2_offers, Cond.selects RX2 yX2_offers yX2_offers, Cond.code yX2_offers cX2_offers 4 none, Cond.methodLink RL 36 yX1_withdraw, Cond.instanceMethod yX1_withdraw, Cond.selects RX1 yX1_withdraw yX1_withdraw]
def wsL_law_r8 : List Cond := [Cond.code yX1_withdraw cX1_withdraw 7 (some .int), Cond.methodLink RL 40 yX2_withdraw, Cond.instanceMethod yX2_withdraw, Cond.selects RX2 yX2_withdraw yX2_withdraw, Cond.code yX2_withdraw cX2_withdraw 6 (some .int), Cond.methodLink RL 41 yX1_restart, Cond.instanceMethod yX1_restart, Cond.selects RX1 yX1_restart yX1_restart, Cond.code yX1_restart cX1_restart 7 (some .int), Cond.instanceMethod yX0_loseRouter, Cond.selects RX0 yX0_loseRouter yX0_loseRouter, Cond.code yX0_loseRouter cX0_loseRouter 3 none, Cond.methodLink RX0 39 yX0_goDown, Cond.instanceMethod yX0_goDown, Cond.selects RX0 yX0_goDown yX0_goDown, Cond.code yX0_goDown cX0_goDown 1 (some .int), Cond.methodLink RX0 46 yX0_removeLearned, Cond.instanceMethod yX0_removeLearned, Cond.selects RX0 yX0_removeLearned yX0_removeLearned, Cond.code yX0_removeLearned cX0_removeLearned 3 (some .int), Cond.methodLink RX0 43 yX0_removeStale, Cond.instanceMethod yX0_removeStale, Cond.selects RX0 yX0_removeStale yX0_removeStale, Cond.code yX0_removeStale cX0_removeStale 3 (some .int)]
def wsL_law_r9 : List Cond := [Cond.methodLink RX1 78 yX1_makeEntriesStale, Cond.instanceMethod yX1_makeEntriesStale, Cond.selects RX1 yX1_makeEntriesStale yX1_makeEntriesStale, Cond.code yX1_makeEntriesStale cX1_makeEntriesStale 2 none, Cond.methodLink RX1 81 yX1_removeEntries, Cond.instanceMethod yX1_removeEntries, Cond.selects RX1 yX1_removeEntries yX1_removeEntries, Cond.code yX1_removeEntries cX1_removeEntries 2 none, Cond.methodLink RX1 84 yX1_checkDeferral, Cond.instanceMethod yX1_checkDeferral, Cond.selects RX1 yX1_checkDeferral yX1_checkDeferral, Cond.code yX1_checkDeferral cX1_checkDeferral 1 none, Cond.methodLink RX1 145 yX1_waitingPeers, Cond.instanceMethod yX1_waitingPeers, Cond.selects RX1 yX1_waitingPeers yX1_waitingPeers, Cond.code yX1_waitingPeers cX1_waitingPeers 4 (some .int), Cond.instanceMethod yX0_isAwaited, Cond.selects RX0 yX0_isAwaited yX0_isAwaited, Cond.code yX0_isAwaited cX0_isAwaited 1 (some .boolean), Cond.methodLink RX1 148 yX1_endDeferral, Cond.instanceMethod yX1_endDeferral, Cond.selects RX1 yX1_endDeferral yX1_endDeferral, Cond.code yX1_endDeferral cX1_endDeferral 5 none, Cond.instanceMethod yX0_endResync]
def wsL_law_r10 : List Cond := [Cond.selects RX0 yX0_endResync yX0_endResync, Cond.code yX0_endResync cX0_endResync 1 none, Cond.methodLink RL 44 yX2_restart, Cond.instanceMethod yX2_restart, Cond.selects RX2 yX2_restart yX2_restart, Cond.code yX2_restart cX2_restart 4 (some .int), Cond.fieldLink RX2 78 "GracefulRestartModel" "deferralTimerNow" "I", Cond.methodLink RX2 103 yX2_losesSession, Cond.instanceMethod yX2_losesSession, Cond.selects RX2 yX2_losesSession yX2_losesSession, Cond.code yX2_losesSession cX2_losesSession 3 none, Cond.methodLink RX2 84 yX2_forgets, Cond.instanceMethod yX2_forgets, Cond.selects RX2 yX2_forgets yX2_forgets, Cond.code yX2_forgets cX2_forgets 5 (some .int), Cond.methodLink RX2 106 yX2_checksDeferral, Cond.instanceMethod yX2_checksDeferral, Cond.selects RX2 yX2_checksDeferral yX2_checksDeferral, Cond.code yX2_checksDeferral cX2_checksDeferral 2 none, Cond.methodLink RX2 74 yX2_waiting, Cond.instanceMethod yX2_waiting, Cond.selects RX2 yX2_waiting yX2_waiting, Cond.code yX2_waiting cX2_waiting 4 (some .int), Cond.methodLink RL 45 yX1_reconnect]
def wsL_law_r11 : List Cond := [Cond.instanceMethod yX1_reconnect, Cond.selects RX1 yX1_reconnect yX1_reconnect, Cond.code yX1_reconnect cX1_reconnect 3 (some .int), Cond.instanceMethod yX0_meetRouter, Cond.selects RX0 yX0_meetRouter yX0_meetRouter, Cond.code yX0_meetRouter cX0_meetRouter 2 none, Cond.instanceMethod yX0_countOffers, Cond.selects RX0 yX0_countOffers yX0_countOffers, Cond.code yX0_countOffers cX0_countOffers 6 (some .int), Cond.methodLink RL 48 yX2_reconnect, Cond.instanceMethod yX2_reconnect, Cond.selects RX2 yX2_reconnect yX2_reconnect, Cond.code yX2_reconnect cX2_reconnect 2 (some .int), Cond.methodLink RX2 109 yX2_known, Cond.instanceMethod yX2_known, Cond.selects RX2 yX2_known yX2_known, Cond.code yX2_known cX2_known 4 (some .int), Cond.methodLink RL 49 yX1_disconnect, Cond.instanceMethod yX1_disconnect, Cond.selects RX1 yX1_disconnect yX1_disconnect, Cond.code yX1_disconnect cX1_disconnect 4 (some .int), Cond.methodLink RL 52 yX2_disconnect, Cond.instanceMethod yX2_disconnect, Cond.selects RX2 yX2_disconnect yX2_disconnect]
def wsL_law_r12 : List Cond := [Cond.code yX2_disconnect cX2_disconnect 3 (some .int), Cond.methodLink RL 53 yX1_endOfTable, Cond.instanceMethod yX1_endOfTable, Cond.selects RX1 yX1_endOfTable yX1_endOfTable, Cond.code yX1_endOfTable cX1_endOfTable 5 (some .int), Cond.methodLink RL 57 yX2_endOfTable, Cond.instanceMethod yX2_endOfTable, Cond.selects RX2 yX2_endOfTable yX2_endOfTable, Cond.code yX2_endOfTable cX2_endOfTable 3 (some .int), Cond.methodLink RL 58 yX1_tick, Cond.instanceMethod yX1_tick, Cond.selects RX1 yX1_tick yX1_tick, Cond.code yX1_tick cX1_tick 4 (some .int), Cond.methodLink RX1 100 yX1_countDownPeers, Cond.instanceMethod yX1_countDownPeers, Cond.selects RX1 yX1_countDownPeers yX1_countDownPeers, Cond.code yX1_countDownPeers cX1_countDownPeers 6 (some .int), Cond.instanceMethod yX0_countDown, Cond.selects RX0 yX0_countDown yX0_countDown, Cond.code yX0_countDown cX0_countDown 2 (some .int), Cond.methodLink RL 61 yX2_tick, Cond.instanceMethod yX2_tick, Cond.selects RX2 yX2_tick yX2_tick, Cond.code yX2_tick cX2_tick 5 (some .int)]
def wsL_law_r13 : List Cond := [Cond.methodLink RX2 112 yX2_ages, Cond.instanceMethod yX2_ages, Cond.selects RX2 yX2_ages yX2_ages, Cond.code yX2_ages cX2_ages 3 (some .int), Cond.methodLink RL 62 yX1_isDeferring, Cond.instanceMethod yX1_isDeferring, Cond.selects RX1 yX1_isDeferring yX1_isDeferring, Cond.code yX1_isDeferring cX1_isDeferring 1 (some .int), Cond.methodLink RL 66 yX2_isDeferring, Cond.instanceMethod yX2_isDeferring, Cond.selects RX2 yX2_isDeferring yX2_isDeferring, Cond.code yX2_isDeferring cX2_isDeferring 1 (some .int), Cond.methodLink RL 67 yX1_deferralTimer, Cond.instanceMethod yX1_deferralTimer, Cond.selects RX1 yX1_deferralTimer yX1_deferralTimer, Cond.code yX1_deferralTimer cX1_deferralTimer 1 (some .int), Cond.methodLink RL 70 yX2_deferralTimer, Cond.instanceMethod yX2_deferralTimer, Cond.selects RX2 yX2_deferralTimer yX2_deferralTimer, Cond.code yX2_deferralTimer cX2_deferralTimer 1 (some .int), Cond.methodLink RL 71 yX1_waitingPeers, Cond.methodLink RL 74 yX2_waitingPeers, Cond.instanceMethod yX2_waitingPeers, Cond.selects RX2 yX2_waitingPeers yX2_waitingPeers]
def wsL_law_r14 : List Cond := [Cond.code yX2_waitingPeers cX2_waitingPeers 1 (some .int), Cond.methodLink RL 75 yX1_nextHop, Cond.instanceMethod yX1_nextHop, Cond.selects RX1 yX1_nextHop yX1_nextHop, Cond.code yX1_nextHop cX1_nextHop 4 (some .int), Cond.methodLink RL 78 yX2_nextHop, Cond.instanceMethod yX2_nextHop, Cond.selects RX2 yX2_nextHop yX2_nextHop, Cond.code yX2_nextHop cX2_nextHop 3 (some .int), Cond.methodLink RL 79 yX1_isEntryStale, Cond.instanceMethod yX1_isEntryStale, Cond.selects RX1 yX1_isEntryStale yX1_isEntryStale, Cond.code yX1_isEntryStale cX1_isEntryStale 4 (some .int), Cond.methodLink RL 82 yX2_isEntryStale, Cond.instanceMethod yX2_isEntryStale, Cond.selects RX2 yX2_isEntryStale yX2_isEntryStale, Cond.code yX2_isEntryStale cX2_isEntryStale 4 (some .int), Cond.methodLink RL 83 yX1_sessionState, Cond.instanceMethod yX1_sessionState, Cond.selects RX1 yX1_sessionState yX1_sessionState, Cond.code yX1_sessionState cX1_sessionState 3 (some .int), Cond.methodLink RL 86 yX2_sessionState, Cond.instanceMethod yX2_sessionState, Cond.selects RX2 yX2_sessionState yX2_sessionState]
def wsL_law_r15 : List Cond := [Cond.code yX2_sessionState cX2_sessionState 2 (some .int), Cond.methodLink RL 87 yX1_restartTimer, Cond.instanceMethod yX1_restartTimer, Cond.selects RX1 yX1_restartTimer yX1_restartTimer, Cond.code yX1_restartTimer cX1_restartTimer 3 (some .int), Cond.methodLink RL 90 yX2_restartTimer, Cond.instanceMethod yX2_restartTimer, Cond.selects RX2 yX2_restartTimer yX2_restartTimer, Cond.code yX2_restartTimer cX2_restartTimer 2 (some .int), Cond.methodLink RL 91 yX1_staleTimer, Cond.instanceMethod yX1_staleTimer, Cond.selects RX1 yX1_staleTimer yX1_staleTimer, Cond.code yX1_staleTimer cX1_staleTimer 3 (some .int), Cond.methodLink RL 94 yX2_staleTimer, Cond.instanceMethod yX2_staleTimer, Cond.selects RX2 yX2_staleTimer yX2_staleTimer, Cond.code yX2_staleTimer cX2_staleTimer 2 (some .int), Cond.methodLink RL 95 yX1_learnedLength, Cond.instanceMethod yX1_learnedLength, Cond.selects RX1 yX1_learnedLength yX1_learnedLength, Cond.code yX1_learnedLength cX1_learnedLength 7 (some .int), Cond.methodLink RL 98 yX2_learnedLength, Cond.instanceMethod yX2_learnedLength, Cond.selects RX2 yX2_learnedLength yX2_learnedLength]
def wsL_law_r16 : List Cond := [Cond.code yX2_learnedLength cX2_learnedLength 6 (some .int), Cond.methodLink RL 99 yX1_isLearnedStale, Cond.instanceMethod yX1_isLearnedStale, Cond.selects RX1 yX1_isLearnedStale yX1_isLearnedStale, Cond.code yX1_isLearnedStale cX1_isLearnedStale 6 (some .int), Cond.methodLink RL 102 yX2_isLearnedStale, Cond.instanceMethod yX2_isLearnedStale, Cond.selects RX2 yX2_isLearnedStale yX2_isLearnedStale, Cond.code yX2_isLearnedStale cX2_isLearnedStale 6 (some .int), Cond.methodLink RL 103 yX1_forward, Cond.instanceMethod yX1_forward, Cond.selects RX1 yX1_forward yX1_forward, Cond.code yX1_forward cX1_forward 6 (some .int), Cond.methodLink RX1 119 yX1_followPacket, Cond.instanceMethod yX1_followPacket, Cond.selects RX1 yX1_followPacket yX1_followPacket, Cond.code yX1_followPacket cX1_followPacket 5 (some .int), Cond.methodLink RL 106 yX2_forward, Cond.instanceMethod yX2_forward, Cond.selects RX2 yX2_forward yX2_forward, Cond.code yX2_forward cX2_forward 5 (some .int), Cond.methodLink RX2 115 yX2_forwards, Cond.instanceMethod yX2_forwards, Cond.selects RX2 yX2_forwards yX2_forwards]
def wsL_law_r17 : List Cond := [Cond.code yX2_forwards cX2_forwards 3 (some .int), Cond.methodLink RL 107 yX1_reachableCount, Cond.instanceMethod yX1_reachableCount, Cond.selects RX1 yX1_reachableCount yX1_reachableCount, Cond.code yX1_reachableCount cX1_reachableCount 5 (some .int), Cond.methodLink RL 110 yX2_reachableCount, Cond.instanceMethod yX2_reachableCount, Cond.selects RX2 yX2_reachableCount yX2_reachableCount, Cond.code yX2_reachableCount cX2_reachableCount 4 (some .int), Cond.methodLink RL 111 yX1_loopCount, Cond.instanceMethod yX1_loopCount, Cond.selects RX1 yX1_loopCount yX1_loopCount, Cond.code yX1_loopCount cX1_loopCount 4 (some .int), Cond.methodLink RX1 123 yX1_countLoops, Cond.instanceMethod yX1_countLoops, Cond.selects RX1 yX1_countLoops yX1_countLoops, Cond.code yX1_countLoops cX1_countLoops 5 (some .int), Cond.methodLink RL 114 yX2_loopCount, Cond.instanceMethod yX2_loopCount, Cond.selects RX2 yX2_loopCount yX2_loopCount, Cond.code yX2_loopCount cX2_loopCount 3 (some .int)]
def wsL_law : List Cond := (wsL_law_r1 ++ (wsL_law_r2 ++ (wsL_law_r3 ++ (wsL_law_r4 ++ (wsL_law_r5 ++ (wsL_law_r6 ++ (wsL_law_r7 ++ (wsL_law_r8 ++ (wsL_law_r9 ++ (wsL_law_r10 ++ (wsL_law_r11 ++ (wsL_law_r12 ++ (wsL_law_r13 ++ (wsL_law_r14 ++ (wsL_law_r15 ++ (wsL_law_r16 ++ wsL_law_r17)))))))))))))))) ++ wsX10 ++ wsX20 ++ wsX00 ++ ([] : List Cond)
set_option maxRecDepth 20000 in
theorem wsL_law_in : ∀ w ∈ wsL_law, w ∈ lw_tbl := fun w h => (goodIn_p wsL_law [46, 49, 323, 85, 88, 377, 380, 92, 384, 96, 388, 100, 104, 141, 145, 149, 153, 157, 161, 392, 396, 400, 404, 408, 165, 169, 172, 176, 412, 416, 420, 423, 427, 180, 431, 184, 188, 192, 196, 200, 204, 208, 212, 216, 220, 224, 228, 435, 439, 443, 447, 451, 232, 236, 240, 455, 459, 244, 463, 249, 467, 253, 257, 261, 471, 475, 265, 479, 269, 483, 487, 274, 491, 278, 495, 282, 499, 286, 503, 290, 507, 294, 511, 298, 515, 302, 306, 519, 523, 310, 527, 314, 318, 531] (by decide +kernel) (by decide +kernel) w h).1
theorem inlX0 : ∀ w ∈ wsX00, w ∈ wsL_law := fun _ h => List.mem_append_left _ (List.mem_append_right _ h)
theorem inX0 : ∀ w ∈ wsX00, w ∈ lw_tbl := fun w h => wsL_law_in w (inlX0 w h)
theorem inlX1 : ∀ w ∈ wsX10, w ∈ wsL_law := fun _ h => List.mem_append_left _ (List.mem_append_left _ (List.mem_append_left _ (List.mem_append_right _ h)))
theorem inX1 : ∀ w ∈ wsX10, w ∈ lw_tbl := fun w h => wsL_law_in w (inlX1 w h)
theorem inlX2 : ∀ w ∈ wsX20, w ∈ wsL_law := fun _ h => List.mem_append_left _ (List.mem_append_left _ (List.mem_append_right _ h))
theorem inX2 : ∀ w ∈ wsX20, w ∈ lw_tbl := fun w h => wsL_law_in w (inlX2 w h)
end
section
theorem dX0_init_0 : decode cX0_init 0 = .ok (.aload_n 0, 1) := by decide +kernel
theorem dX0_init_1 : decode cX0_init 1 = .ok (.invokespecial 3, 3) := by decide +kernel
theorem dX0_init_4 : decode cX0_init 4 = .ok (.aload_n 0, 1) := by decide +kernel
theorem dX0_init_5 : decode cX0_init 5 = .ok (.iload_n 1, 1) := by decide +kernel
theorem dX0_init_6 : decode cX0_init 6 = .ok (.putfield 9, 3) := by decide +kernel
theorem dX0_init_9 : decode cX0_init 9 = .ok (.aload_n 0, 1) := by decide +kernel
theorem dX0_init_10 : decode cX0_init 10 = .ok (.bipush 16, 2) := by decide +kernel
theorem dX0_init_12 : decode cX0_init 12 = .ok (.newarray .int, 2) := by decide +kernel
theorem dX0_init_14 : decode cX0_init 14 = .ok (.putfield 15, 3) := by decide +kernel
theorem dX0_init_17 : decode cX0_init 17 = .ok (.aload_n 0, 1) := by decide +kernel
theorem dX0_init_18 : decode cX0_init 18 = .ok (.bipush 16, 2) := by decide +kernel
theorem dX0_init_20 : decode cX0_init 20 = .ok (.newarray .int, 2) := by decide +kernel
theorem dX0_init_22 : decode cX0_init 22 = .ok (.putfield 19, 3) := by decide +kernel
theorem dX0_init_25 : decode cX0_init 25 = .ok (.aload_n 0, 1) := by decide +kernel
theorem dX0_init_26 : decode cX0_init 26 = .ok (.bipush 16, 2) := by decide +kernel
theorem dX0_init_28 : decode cX0_init 28 = .ok (.newarray .boolean, 2) := by decide +kernel
theorem dX0_init_30 : decode cX0_init 30 = .ok (.putfield 22, 3) := by decide +kernel
theorem dX0_init_33 : decode cX0_init 33 = .ok (.aload_n 0, 1) := by decide +kernel
theorem dX0_init_34 : decode cX0_init 34 = .ok (.iconst 0, 1) := by decide +kernel
theorem dX0_init_35 : decode cX0_init 35 = .ok (.putfield 26, 3) := by decide +kernel
theorem dX0_init_38 : decode cX0_init 38 = .ok (.aload_n 0, 1) := by decide +kernel
theorem dX0_init_39 : decode cX0_init 39 = .ok (.iconst 0, 1) := by decide +kernel
theorem dX0_init_40 : decode cX0_init 40 = .ok (.putfield 30, 3) := by decide +kernel
theorem dX0_init_43 : decode cX0_init 43 = .ok (.aload_n 0, 1) := by decide +kernel
theorem dX0_init_44 : decode cX0_init 44 = .ok (.iconst 0, 1) := by decide +kernel
theorem dX0_init_45 : decode cX0_init 45 = .ok (.putfield 33, 3) := by decide +kernel
theorem dX0_init_48 : decode cX0_init 48 = .ok (.aload_n 0, 1) := by decide +kernel
theorem dX0_init_49 : decode cX0_init 49 = .ok (.iconst 0, 1) := by decide +kernel
theorem dX0_init_50 : decode cX0_init 50 = .ok (.putfield 36, 3) := by decide +kernel
theorem dX0_init_53 : decode cX0_init 53 = .ok (.return_, 1) := by decide +kernel
theorem dX0_knownOffer_0 : decode cX0_knownOffer 0 = .ok (.aload_n 0, 1) := by decide +kernel
theorem dX0_knownOffer_1 : decode cX0_knownOffer 1 = .ok (.getfield 26, 3) := by decide +kernel
theorem dX0_knownOffer_4 : decode cX0_knownOffer 4 = .ok (.ifCond .ne 12, 3) := by decide +kernel
theorem dX0_knownOffer_7 : decode cX0_knownOffer 7 = .ok (.aload_n 0, 1) := by decide +kernel
theorem dX0_knownOffer_8 : decode cX0_knownOffer 8 = .ok (.getfield 15, 3) := by decide +kernel
theorem dX0_knownOffer_11 : decode cX0_knownOffer 11 = .ok (.iload_n 1, 1) := by decide +kernel
theorem dX0_knownOffer_12 : decode cX0_knownOffer 12 = .ok (.iaload, 1) := by decide +kernel
theorem dX0_knownOffer_13 : decode cX0_knownOffer 13 = .ok (.goto 4, 3) := by decide +kernel
theorem dX0_knownOffer_16 : decode cX0_knownOffer 16 = .ok (.iconst 0, 1) := by decide +kernel
theorem dX0_knownOffer_17 : decode cX0_knownOffer 17 = .ok (.ireturn, 1) := by decide +kernel
theorem dX0_countOffers_0 : decode cX0_countOffers 0 = .ok (.iconst 0, 1) := by decide +kernel
theorem dX0_countOffers_1 : decode cX0_countOffers 1 = .ok (.istore_n 1, 1) := by decide +kernel
theorem dX0_countOffers_2 : decode cX0_countOffers 2 = .ok (.aload_n 0, 1) := by decide +kernel
theorem dX0_countOffers_3 : decode cX0_countOffers 3 = .ok (.getfield 15, 3) := by decide +kernel
theorem dX0_countOffers_6 : decode cX0_countOffers 6 = .ok (.astore_n 2, 1) := by decide +kernel
theorem dX0_countOffers_7 : decode cX0_countOffers 7 = .ok (.aload_n 2, 1) := by decide +kernel
theorem dX0_countOffers_8 : decode cX0_countOffers 8 = .ok (.arraylength, 1) := by decide +kernel
theorem dX0_countOffers_9 : decode cX0_countOffers 9 = .ok (.istore_n 3, 1) := by decide +kernel
theorem dX0_countOffers_10 : decode cX0_countOffers 10 = .ok (.iconst 0, 1) := by decide +kernel
theorem dX0_countOffers_11 : decode cX0_countOffers 11 = .ok (.istore 4, 2) := by decide +kernel
theorem dX0_countOffers_13 : decode cX0_countOffers 13 = .ok (.iload 4, 2) := by decide +kernel
theorem dX0_countOffers_15 : decode cX0_countOffers 15 = .ok (.iload_n 3, 1) := by decide +kernel
theorem dX0_countOffers_16 : decode cX0_countOffers 16 = .ok (.if_icmp .ge 23, 3) := by decide +kernel
theorem dX0_countOffers_19 : decode cX0_countOffers 19 = .ok (.aload_n 2, 1) := by decide +kernel
theorem dX0_countOffers_20 : decode cX0_countOffers 20 = .ok (.iload 4, 2) := by decide +kernel
theorem dX0_countOffers_22 : decode cX0_countOffers 22 = .ok (.iaload, 1) := by decide +kernel
theorem dX0_countOffers_23 : decode cX0_countOffers 23 = .ok (.istore 5, 2) := by decide +kernel
theorem dX0_countOffers_25 : decode cX0_countOffers 25 = .ok (.iload 5, 2) := by decide +kernel
theorem dX0_countOffers_27 : decode cX0_countOffers 27 = .ok (.ifCond .le 6, 3) := by decide +kernel
theorem dX0_countOffers_30 : decode cX0_countOffers 30 = .ok (.iinc 1 1, 3) := by decide +kernel
theorem dX0_countOffers_33 : decode cX0_countOffers 33 = .ok (.iinc 4 1, 3) := by decide +kernel
theorem dX0_countOffers_36 : decode cX0_countOffers 36 = .ok (.goto (-23), 3) := by decide +kernel
theorem dX0_countOffers_39 : decode cX0_countOffers 39 = .ok (.iload_n 1, 1) := by decide +kernel
theorem dX0_countOffers_40 : decode cX0_countOffers 40 = .ok (.ireturn, 1) := by decide +kernel
theorem dX0_isAwaited_0 : decode cX0_isAwaited 0 = .ok (.aload_n 0, 1) := by decide +kernel
theorem dX0_isAwaited_1 : decode cX0_isAwaited 1 = .ok (.getfield 9, 3) := by decide +kernel
theorem dX0_isAwaited_4 : decode cX0_isAwaited 4 = .ok (.ifCond .eq 23, 3) := by decide +kernel
theorem dX0_isAwaited_7 : decode cX0_isAwaited 7 = .ok (.aload_n 0, 1) := by decide +kernel
theorem dX0_isAwaited_8 : decode cX0_isAwaited 8 = .ok (.getfield 26, 3) := by decide +kernel
theorem dX0_isAwaited_11 : decode cX0_isAwaited 11 = .ok (.iconst 2, 1) := by decide +kernel
theorem dX0_isAwaited_12 : decode cX0_isAwaited 12 = .ok (.if_icmp .eq 15, 3) := by decide +kernel
theorem dX0_isAwaited_15 : decode cX0_isAwaited 15 = .ok (.aload_n 0, 1) := by decide +kernel
theorem dX0_isAwaited_16 : decode cX0_isAwaited 16 = .ok (.getfield 36, 3) := by decide +kernel
theorem dX0_isAwaited_19 : decode cX0_isAwaited 19 = .ok (.iconst 3, 1) := by decide +kernel
theorem dX0_isAwaited_20 : decode cX0_isAwaited 20 = .ok (.if_icmp .eq 7, 3) := by decide +kernel
theorem dX0_isAwaited_23 : decode cX0_isAwaited 23 = .ok (.iconst 1, 1) := by decide +kernel
theorem dX0_isAwaited_24 : decode cX0_isAwaited 24 = .ok (.goto 4, 3) := by decide +kernel
theorem dX0_isAwaited_27 : decode cX0_isAwaited 27 = .ok (.iconst 0, 1) := by decide +kernel
theorem dX0_isAwaited_28 : decode cX0_isAwaited 28 = .ok (.ireturn, 1) := by decide +kernel
theorem dX0_learn_0 : decode cX0_learn 0 = .ok (.aload_n 0, 1) := by decide +kernel
theorem dX0_learn_1 : decode cX0_learn 1 = .ok (.getfield 19, 3) := by decide +kernel
theorem dX0_learn_4 : decode cX0_learn 4 = .ok (.iload_n 1, 1) := by decide +kernel
theorem dX0_learn_5 : decode cX0_learn 5 = .ok (.iload_n 2, 1) := by decide +kernel
theorem dX0_learn_6 : decode cX0_learn 6 = .ok (.iastore, 1) := by decide +kernel
theorem dX0_learn_7 : decode cX0_learn 7 = .ok (.aload_n 0, 1) := by decide +kernel
theorem dX0_learn_8 : decode cX0_learn 8 = .ok (.getfield 22, 3) := by decide +kernel
theorem dX0_learn_11 : decode cX0_learn 11 = .ok (.iload_n 1, 1) := by decide +kernel
theorem dX0_learn_12 : decode cX0_learn 12 = .ok (.iconst 0, 1) := by decide +kernel
theorem dX0_learn_13 : decode cX0_learn 13 = .ok (.bastore, 1) := by decide +kernel
theorem dX0_learn_14 : decode cX0_learn 14 = .ok (.return_, 1) := by decide +kernel
theorem dX0_hearNothing_0 : decode cX0_hearNothing 0 = .ok (.aload_n 0, 1) := by decide +kernel
theorem dX0_hearNothing_1 : decode cX0_hearNothing 1 = .ok (.getfield 22, 3) := by decide +kernel
theorem dX0_hearNothing_4 : decode cX0_hearNothing 4 = .ok (.iload_n 1, 1) := by decide +kernel
theorem dX0_hearNothing_5 : decode cX0_hearNothing 5 = .ok (.baload, 1) := by decide +kernel
theorem dX0_hearNothing_6 : decode cX0_hearNothing 6 = .ok (.ifCond .ne 10, 3) := by decide +kernel
theorem dX0_hearNothing_9 : decode cX0_hearNothing 9 = .ok (.aload_n 0, 1) := by decide +kernel
theorem dX0_hearNothing_10 : decode cX0_hearNothing 10 = .ok (.getfield 19, 3) := by decide +kernel
theorem dX0_hearNothing_13 : decode cX0_hearNothing 13 = .ok (.iload_n 1, 1) := by decide +kernel
theorem dX0_hearNothing_14 : decode cX0_hearNothing 14 = .ok (.iconst 0, 1) := by decide +kernel
theorem dX0_hearNothing_15 : decode cX0_hearNothing 15 = .ok (.iastore, 1) := by decide +kernel
theorem dX0_hearNothing_16 : decode cX0_hearNothing 16 = .ok (.return_, 1) := by decide +kernel
set_option maxRecDepth 20000 in
theorem ggX0_loseRouter_X0_goDown : GoodIn wsX0_loseRouter wsX0_goDown := goodIn_r _ [11, 2, 6, 5, 12, 13, 14, 10, 15, 4, 3, 20, 21, 22, 23, 24, 25, 26, 27] (by decide +kernel) (by decide +kernel)
set_option maxRecDepth 20000 in
theorem gX0_loseRouter_X0_goDown : GoodIn wsX0_loseRouter (wsV RX0 39 RX0 yX0_goDown wsX0_goDown) := goodIn_app (goodIn_of _ (by decide +kernel)) ggX0_loseRouter_X0_goDown
set_option maxRecDepth 20000 in
theorem ggX0_loseRouter_X0_removeStale : GoodIn wsX0_loseRouter wsX0_removeStale := goodIn_r _ [19, 3, 4, 20, 21, 22, 23, 24, 25, 26, 27] (by decide +kernel) (by decide +kernel)
set_option maxRecDepth 20000 in
theorem gX0_loseRouter_X0_removeStale : GoodIn wsX0_loseRouter (wsV RX0 43 RX0 yX0_removeStale wsX0_removeStale) := goodIn_app (goodIn_of _ (by decide +kernel)) ggX0_loseRouter_X0_removeStale
theorem dX0_loseRouter_0 : decode cX0_loseRouter 0 = .ok (.aload_n 0, 1) := by decide +kernel
theorem dX0_loseRouter_1 : decode cX0_loseRouter 1 = .ok (.getfield 9, 3) := by decide +kernel
theorem dX0_loseRouter_4 : decode cX0_loseRouter 4 = .ok (.ifCond .ne 9, 3) := by decide +kernel
theorem dX0_loseRouter_7 : decode cX0_loseRouter 7 = .ok (.aload_n 0, 1) := by decide +kernel
theorem dX0_loseRouter_8 : decode cX0_loseRouter 8 = .ok (.invokevirtual 39, 3) := by decide +kernel
theorem dX0_loseRouter_11 : decode cX0_loseRouter 11 = .ok (.pop, 1) := by decide +kernel
theorem dX0_loseRouter_12 : decode cX0_loseRouter 12 = .ok (.return_, 1) := by decide +kernel
theorem dX0_loseRouter_13 : decode cX0_loseRouter 13 = .ok (.aload_n 0, 1) := by decide +kernel
theorem dX0_loseRouter_14 : decode cX0_loseRouter 14 = .ok (.iconst 1, 1) := by decide +kernel
theorem dX0_loseRouter_15 : decode cX0_loseRouter 15 = .ok (.putfield 26, 3) := by decide +kernel
theorem dX0_loseRouter_18 : decode cX0_loseRouter 18 = .ok (.aload_n 0, 1) := by decide +kernel
theorem dX0_loseRouter_19 : decode cX0_loseRouter 19 = .ok (.invokevirtual 43, 3) := by decide +kernel
theorem dX0_loseRouter_22 : decode cX0_loseRouter 22 = .ok (.pop, 1) := by decide +kernel
theorem dX0_loseRouter_23 : decode cX0_loseRouter 23 = .ok (.iconst 0, 1) := by decide +kernel
theorem dX0_loseRouter_24 : decode cX0_loseRouter 24 = .ok (.istore_n 2, 1) := by decide +kernel
theorem dX0_loseRouter_25 : decode cX0_loseRouter 25 = .ok (.iload_n 2, 1) := by decide +kernel
theorem dX0_loseRouter_26 : decode cX0_loseRouter 26 = .ok (.bipush 16, 2) := by decide +kernel
theorem dX0_loseRouter_28 : decode cX0_loseRouter 28 = .ok (.if_icmp .ge 29, 3) := by decide +kernel
theorem dX0_loseRouter_31 : decode cX0_loseRouter 31 = .ok (.aload_n 0, 1) := by decide +kernel
theorem dX0_loseRouter_32 : decode cX0_loseRouter 32 = .ok (.getfield 22, 3) := by decide +kernel
theorem dX0_loseRouter_35 : decode cX0_loseRouter 35 = .ok (.iload_n 2, 1) := by decide +kernel
theorem dX0_loseRouter_36 : decode cX0_loseRouter 36 = .ok (.aload_n 0, 1) := by decide +kernel
theorem dX0_loseRouter_37 : decode cX0_loseRouter 37 = .ok (.getfield 19, 3) := by decide +kernel
theorem dX0_loseRouter_40 : decode cX0_loseRouter 40 = .ok (.iload_n 2, 1) := by decide +kernel
theorem dX0_loseRouter_41 : decode cX0_loseRouter 41 = .ok (.iaload, 1) := by decide +kernel
theorem dX0_loseRouter_42 : decode cX0_loseRouter 42 = .ok (.ifCond .eq 7, 3) := by decide +kernel
theorem dX0_loseRouter_45 : decode cX0_loseRouter 45 = .ok (.iconst 1, 1) := by decide +kernel
theorem dX0_loseRouter_46 : decode cX0_loseRouter 46 = .ok (.goto 4, 3) := by decide +kernel
theorem dX0_loseRouter_49 : decode cX0_loseRouter 49 = .ok (.iconst 0, 1) := by decide +kernel
theorem dX0_loseRouter_50 : decode cX0_loseRouter 50 = .ok (.bastore, 1) := by decide +kernel
theorem dX0_loseRouter_51 : decode cX0_loseRouter 51 = .ok (.iinc 2 1, 3) := by decide +kernel
theorem dX0_loseRouter_54 : decode cX0_loseRouter 54 = .ok (.goto (-29), 3) := by decide +kernel
theorem dX0_loseRouter_57 : decode cX0_loseRouter 57 = .ok (.aload_n 0, 1) := by decide +kernel
theorem dX0_loseRouter_58 : decode cX0_loseRouter 58 = .ok (.iconst 0, 1) := by decide +kernel
theorem dX0_loseRouter_59 : decode cX0_loseRouter 59 = .ok (.putfield 33, 3) := by decide +kernel
theorem dX0_loseRouter_62 : decode cX0_loseRouter 62 = .ok (.aload_n 0, 1) := by decide +kernel
theorem dX0_loseRouter_63 : decode cX0_loseRouter 63 = .ok (.iload_n 1, 1) := by decide +kernel
theorem dX0_loseRouter_64 : decode cX0_loseRouter 64 = .ok (.putfield 30, 3) := by decide +kernel
theorem dX0_loseRouter_67 : decode cX0_loseRouter 67 = .ok (.return_, 1) := by decide +kernel
theorem dX0_meetRouter_0 : decode cX0_meetRouter 0 = .ok (.aload_n 0, 1) := by decide +kernel
theorem dX0_meetRouter_1 : decode cX0_meetRouter 1 = .ok (.getfield 26, 3) := by decide +kernel
theorem dX0_meetRouter_4 : decode cX0_meetRouter 4 = .ok (.iconst 1, 1) := by decide +kernel
theorem dX0_meetRouter_5 : decode cX0_meetRouter 5 = .ok (.if_icmp .ne 13, 3) := by decide +kernel
theorem dX0_meetRouter_8 : decode cX0_meetRouter 8 = .ok (.aload_n 0, 1) := by decide +kernel
theorem dX0_meetRouter_9 : decode cX0_meetRouter 9 = .ok (.iconst 0, 1) := by decide +kernel
theorem dX0_meetRouter_10 : decode cX0_meetRouter 10 = .ok (.putfield 30, 3) := by decide +kernel
theorem dX0_meetRouter_13 : decode cX0_meetRouter 13 = .ok (.aload_n 0, 1) := by decide +kernel
theorem dX0_meetRouter_14 : decode cX0_meetRouter 14 = .ok (.iload_n 1, 1) := by decide +kernel
theorem dX0_meetRouter_15 : decode cX0_meetRouter 15 = .ok (.putfield 33, 3) := by decide +kernel
theorem dX0_meetRouter_18 : decode cX0_meetRouter 18 = .ok (.aload_n 0, 1) := by decide +kernel
theorem dX0_meetRouter_19 : decode cX0_meetRouter 19 = .ok (.iconst 0, 1) := by decide +kernel
theorem dX0_meetRouter_20 : decode cX0_meetRouter 20 = .ok (.putfield 26, 3) := by decide +kernel
theorem dX0_meetRouter_23 : decode cX0_meetRouter 23 = .ok (.return_, 1) := by decide +kernel
set_option maxRecDepth 20000 in
theorem ggX0_endResync_X0_removeStale : GoodIn wsX0_endResync wsX0_removeStale := goodIn_r _ [6, 7, 8, 9, 10, 11, 12, 13, 14, 15, 16] (by decide +kernel) (by decide +kernel)
set_option maxRecDepth 20000 in
theorem gX0_endResync_X0_removeStale : GoodIn wsX0_endResync (wsV RX0 43 RX0 yX0_removeStale wsX0_removeStale) := goodIn_app (goodIn_of _ (by decide +kernel)) ggX0_endResync_X0_removeStale
theorem dX0_endResync_0 : decode cX0_endResync 0 = .ok (.aload_n 0, 1) := by decide +kernel
theorem dX0_endResync_1 : decode cX0_endResync 1 = .ok (.invokevirtual 43, 3) := by decide +kernel
theorem dX0_endResync_4 : decode cX0_endResync 4 = .ok (.pop, 1) := by decide +kernel
theorem dX0_endResync_5 : decode cX0_endResync 5 = .ok (.aload_n 0, 1) := by decide +kernel
theorem dX0_endResync_6 : decode cX0_endResync 6 = .ok (.iconst 0, 1) := by decide +kernel
theorem dX0_endResync_7 : decode cX0_endResync 7 = .ok (.putfield 33, 3) := by decide +kernel
theorem dX0_endResync_10 : decode cX0_endResync 10 = .ok (.return_, 1) := by decide +kernel
set_option maxRecDepth 20000 in
theorem ggX0_goDown_X0_removeLearned : GoodIn wsX0_goDown wsX0_removeLearned := goodIn_r _ [8, 9, 10, 11, 12, 13, 14, 15, 16, 17, 18] (by decide +kernel) (by decide +kernel)
set_option maxRecDepth 20000 in
theorem gX0_goDown_X0_removeLearned : GoodIn wsX0_goDown (wsV RX0 46 RX0 yX0_removeLearned wsX0_removeLearned) := goodIn_app (goodIn_of _ (by decide +kernel)) ggX0_goDown_X0_removeLearned
theorem dX0_goDown_0 : decode cX0_goDown 0 = .ok (.aload_n 0, 1) := by decide +kernel
theorem dX0_goDown_1 : decode cX0_goDown 1 = .ok (.iconst 2, 1) := by decide +kernel
theorem dX0_goDown_2 : decode cX0_goDown 2 = .ok (.putfield 26, 3) := by decide +kernel
theorem dX0_goDown_5 : decode cX0_goDown 5 = .ok (.aload_n 0, 1) := by decide +kernel
theorem dX0_goDown_6 : decode cX0_goDown 6 = .ok (.iconst 0, 1) := by decide +kernel
theorem dX0_goDown_7 : decode cX0_goDown 7 = .ok (.putfield 30, 3) := by decide +kernel
theorem dX0_goDown_10 : decode cX0_goDown 10 = .ok (.aload_n 0, 1) := by decide +kernel
theorem dX0_goDown_11 : decode cX0_goDown 11 = .ok (.iconst 0, 1) := by decide +kernel
theorem dX0_goDown_12 : decode cX0_goDown 12 = .ok (.putfield 33, 3) := by decide +kernel
theorem dX0_goDown_15 : decode cX0_goDown 15 = .ok (.aload_n 0, 1) := by decide +kernel
theorem dX0_goDown_16 : decode cX0_goDown 16 = .ok (.invokevirtual 46, 3) := by decide +kernel
theorem dX0_goDown_19 : decode cX0_goDown 19 = .ok (.ireturn, 1) := by decide +kernel
set_option maxRecDepth 20000 in
theorem ggX0_countDown_X0_goDown : GoodIn wsX0_countDown wsX0_goDown := goodIn_r _ [7, 8, 1, 2, 9, 10, 11, 6, 12, 13, 14, 19, 20, 21, 22, 23, 24, 25, 26] (by decide +kernel) (by decide +kernel)
set_option maxRecDepth 20000 in
theorem gX0_countDown_X0_goDown : GoodIn wsX0_countDown (wsV RX0 39 RX0 yX0_goDown wsX0_goDown) := goodIn_app (goodIn_of _ (by decide +kernel)) ggX0_countDown_X0_goDown
set_option maxRecDepth 20000 in
theorem ggX0_countDown_X0_removeStale : GoodIn wsX0_countDown wsX0_removeStale := goodIn_r _ [18, 14, 13, 19, 20, 21, 22, 23, 24, 25, 26] (by decide +kernel) (by decide +kernel)
set_option maxRecDepth 20000 in
theorem gX0_countDown_X0_removeStale : GoodIn wsX0_countDown (wsV RX0 43 RX0 yX0_removeStale wsX0_removeStale) := goodIn_app (goodIn_of _ (by decide +kernel)) ggX0_countDown_X0_removeStale
theorem dX0_countDown_0 : decode cX0_countDown 0 = .ok (.iconst 0, 1) := by decide +kernel
theorem dX0_countDown_1 : decode cX0_countDown 1 = .ok (.istore_n 1, 1) := by decide +kernel
theorem dX0_countDown_2 : decode cX0_countDown 2 = .ok (.aload_n 0, 1) := by decide +kernel
theorem dX0_countDown_3 : decode cX0_countDown 3 = .ok (.getfield 30, 3) := by decide +kernel
theorem dX0_countDown_6 : decode cX0_countDown 6 = .ok (.ifCond .le 27, 3) := by decide +kernel
theorem dX0_countDown_9 : decode cX0_countDown 9 = .ok (.aload_n 0, 1) := by decide +kernel
theorem dX0_countDown_10 : decode cX0_countDown 10 = .ok (.dup, 1) := by decide +kernel
theorem dX0_countDown_11 : decode cX0_countDown 11 = .ok (.getfield 30, 3) := by decide +kernel
theorem dX0_countDown_14 : decode cX0_countDown 14 = .ok (.iconst 1, 1) := by decide +kernel
theorem dX0_countDown_15 : decode cX0_countDown 15 = .ok (.isub, 1) := by decide +kernel
theorem dX0_countDown_16 : decode cX0_countDown 16 = .ok (.putfield 30, 3) := by decide +kernel
theorem dX0_countDown_19 : decode cX0_countDown 19 = .ok (.aload_n 0, 1) := by decide +kernel
theorem dX0_countDown_20 : decode cX0_countDown 20 = .ok (.getfield 30, 3) := by decide +kernel
theorem dX0_countDown_23 : decode cX0_countDown 23 = .ok (.ifCond .ne 10, 3) := by decide +kernel
theorem dX0_countDown_26 : decode cX0_countDown 26 = .ok (.iload_n 1, 1) := by decide +kernel
theorem dX0_countDown_27 : decode cX0_countDown 27 = .ok (.aload_n 0, 1) := by decide +kernel
theorem dX0_countDown_28 : decode cX0_countDown 28 = .ok (.invokevirtual 39, 3) := by decide +kernel
theorem dX0_countDown_31 : decode cX0_countDown 31 = .ok (.iadd, 1) := by decide +kernel
theorem dX0_countDown_32 : decode cX0_countDown 32 = .ok (.istore_n 1, 1) := by decide +kernel
theorem dX0_countDown_33 : decode cX0_countDown 33 = .ok (.aload_n 0, 1) := by decide +kernel
theorem dX0_countDown_34 : decode cX0_countDown 34 = .ok (.getfield 33, 3) := by decide +kernel
theorem dX0_countDown_37 : decode cX0_countDown 37 = .ok (.ifCond .le 27, 3) := by decide +kernel
theorem dX0_countDown_40 : decode cX0_countDown 40 = .ok (.aload_n 0, 1) := by decide +kernel
theorem dX0_countDown_41 : decode cX0_countDown 41 = .ok (.dup, 1) := by decide +kernel
theorem dX0_countDown_42 : decode cX0_countDown 42 = .ok (.getfield 33, 3) := by decide +kernel
theorem dX0_countDown_45 : decode cX0_countDown 45 = .ok (.iconst 1, 1) := by decide +kernel
theorem dX0_countDown_46 : decode cX0_countDown 46 = .ok (.isub, 1) := by decide +kernel
theorem dX0_countDown_47 : decode cX0_countDown 47 = .ok (.putfield 33, 3) := by decide +kernel
theorem dX0_countDown_50 : decode cX0_countDown 50 = .ok (.aload_n 0, 1) := by decide +kernel
theorem dX0_countDown_51 : decode cX0_countDown 51 = .ok (.getfield 33, 3) := by decide +kernel
theorem dX0_countDown_54 : decode cX0_countDown 54 = .ok (.ifCond .ne 10, 3) := by decide +kernel
theorem dX0_countDown_57 : decode cX0_countDown 57 = .ok (.iload_n 1, 1) := by decide +kernel
theorem dX0_countDown_58 : decode cX0_countDown 58 = .ok (.aload_n 0, 1) := by decide +kernel
theorem dX0_countDown_59 : decode cX0_countDown 59 = .ok (.invokevirtual 43, 3) := by decide +kernel
theorem dX0_countDown_62 : decode cX0_countDown 62 = .ok (.iadd, 1) := by decide +kernel
theorem dX0_countDown_63 : decode cX0_countDown 63 = .ok (.istore_n 1, 1) := by decide +kernel
theorem dX0_countDown_64 : decode cX0_countDown 64 = .ok (.iload_n 1, 1) := by decide +kernel
theorem dX0_countDown_65 : decode cX0_countDown 65 = .ok (.ireturn, 1) := by decide +kernel
theorem dX0_removeLearned_0 : decode cX0_removeLearned 0 = .ok (.iconst 0, 1) := by decide +kernel
theorem dX0_removeLearned_1 : decode cX0_removeLearned 1 = .ok (.istore_n 1, 1) := by decide +kernel
theorem dX0_removeLearned_2 : decode cX0_removeLearned 2 = .ok (.iconst 0, 1) := by decide +kernel
theorem dX0_removeLearned_3 : decode cX0_removeLearned 3 = .ok (.istore_n 2, 1) := by decide +kernel
theorem dX0_removeLearned_4 : decode cX0_removeLearned 4 = .ok (.iload_n 2, 1) := by decide +kernel
theorem dX0_removeLearned_5 : decode cX0_removeLearned 5 = .ok (.bipush 16, 2) := by decide +kernel
theorem dX0_removeLearned_7 : decode cX0_removeLearned 7 = .ok (.if_icmp .ge 35, 3) := by decide +kernel
theorem dX0_removeLearned_10 : decode cX0_removeLearned 10 = .ok (.aload_n 0, 1) := by decide +kernel
theorem dX0_removeLearned_11 : decode cX0_removeLearned 11 = .ok (.getfield 19, 3) := by decide +kernel
theorem dX0_removeLearned_14 : decode cX0_removeLearned 14 = .ok (.iload_n 2, 1) := by decide +kernel
theorem dX0_removeLearned_15 : decode cX0_removeLearned 15 = .ok (.iaload, 1) := by decide +kernel
theorem dX0_removeLearned_16 : decode cX0_removeLearned 16 = .ok (.ifCond .eq 6, 3) := by decide +kernel
theorem dX0_removeLearned_19 : decode cX0_removeLearned 19 = .ok (.iinc 1 1, 3) := by decide +kernel
theorem dX0_removeLearned_22 : decode cX0_removeLearned 22 = .ok (.aload_n 0, 1) := by decide +kernel
theorem dX0_removeLearned_23 : decode cX0_removeLearned 23 = .ok (.getfield 19, 3) := by decide +kernel
theorem dX0_removeLearned_26 : decode cX0_removeLearned 26 = .ok (.iload_n 2, 1) := by decide +kernel
theorem dX0_removeLearned_27 : decode cX0_removeLearned 27 = .ok (.iconst 0, 1) := by decide +kernel
theorem dX0_removeLearned_28 : decode cX0_removeLearned 28 = .ok (.iastore, 1) := by decide +kernel
theorem dX0_removeLearned_29 : decode cX0_removeLearned 29 = .ok (.aload_n 0, 1) := by decide +kernel
theorem dX0_removeLearned_30 : decode cX0_removeLearned 30 = .ok (.getfield 22, 3) := by decide +kernel
theorem dX0_removeLearned_33 : decode cX0_removeLearned 33 = .ok (.iload_n 2, 1) := by decide +kernel
theorem dX0_removeLearned_34 : decode cX0_removeLearned 34 = .ok (.iconst 0, 1) := by decide +kernel
theorem dX0_removeLearned_35 : decode cX0_removeLearned 35 = .ok (.bastore, 1) := by decide +kernel
theorem dX0_removeLearned_36 : decode cX0_removeLearned 36 = .ok (.iinc 2 1, 3) := by decide +kernel
theorem dX0_removeLearned_39 : decode cX0_removeLearned 39 = .ok (.goto (-35), 3) := by decide +kernel
theorem dX0_removeLearned_42 : decode cX0_removeLearned 42 = .ok (.iload_n 1, 1) := by decide +kernel
theorem dX0_removeLearned_43 : decode cX0_removeLearned 43 = .ok (.ireturn, 1) := by decide +kernel
theorem dX0_removeStale_0 : decode cX0_removeStale 0 = .ok (.iconst 0, 1) := by decide +kernel
theorem dX0_removeStale_1 : decode cX0_removeStale 1 = .ok (.istore_n 1, 1) := by decide +kernel
theorem dX0_removeStale_2 : decode cX0_removeStale 2 = .ok (.iconst 0, 1) := by decide +kernel
theorem dX0_removeStale_3 : decode cX0_removeStale 3 = .ok (.istore_n 2, 1) := by decide +kernel
theorem dX0_removeStale_4 : decode cX0_removeStale 4 = .ok (.iload_n 2, 1) := by decide +kernel
theorem dX0_removeStale_5 : decode cX0_removeStale 5 = .ok (.bipush 16, 2) := by decide +kernel
theorem dX0_removeStale_7 : decode cX0_removeStale 7 = .ok (.if_icmp .ge 35, 3) := by decide +kernel
theorem dX0_removeStale_10 : decode cX0_removeStale 10 = .ok (.aload_n 0, 1) := by decide +kernel
theorem dX0_removeStale_11 : decode cX0_removeStale 11 = .ok (.getfield 22, 3) := by decide +kernel
theorem dX0_removeStale_14 : decode cX0_removeStale 14 = .ok (.iload_n 2, 1) := by decide +kernel
theorem dX0_removeStale_15 : decode cX0_removeStale 15 = .ok (.baload, 1) := by decide +kernel
theorem dX0_removeStale_16 : decode cX0_removeStale 16 = .ok (.ifCond .eq 20, 3) := by decide +kernel
theorem dX0_removeStale_19 : decode cX0_removeStale 19 = .ok (.aload_n 0, 1) := by decide +kernel
theorem dX0_removeStale_20 : decode cX0_removeStale 20 = .ok (.getfield 19, 3) := by decide +kernel
theorem dX0_removeStale_23 : decode cX0_removeStale 23 = .ok (.iload_n 2, 1) := by decide +kernel
theorem dX0_removeStale_24 : decode cX0_removeStale 24 = .ok (.iconst 0, 1) := by decide +kernel
theorem dX0_removeStale_25 : decode cX0_removeStale 25 = .ok (.iastore, 1) := by decide +kernel
theorem dX0_removeStale_26 : decode cX0_removeStale 26 = .ok (.aload_n 0, 1) := by decide +kernel
theorem dX0_removeStale_27 : decode cX0_removeStale 27 = .ok (.getfield 22, 3) := by decide +kernel
theorem dX0_removeStale_30 : decode cX0_removeStale 30 = .ok (.iload_n 2, 1) := by decide +kernel
theorem dX0_removeStale_31 : decode cX0_removeStale 31 = .ok (.iconst 0, 1) := by decide +kernel
theorem dX0_removeStale_32 : decode cX0_removeStale 32 = .ok (.bastore, 1) := by decide +kernel
theorem dX0_removeStale_33 : decode cX0_removeStale 33 = .ok (.iinc 1 1, 3) := by decide +kernel
theorem dX0_removeStale_36 : decode cX0_removeStale 36 = .ok (.iinc 2 1, 3) := by decide +kernel
theorem dX0_removeStale_39 : decode cX0_removeStale 39 = .ok (.goto (-35), 3) := by decide +kernel
theorem dX0_removeStale_42 : decode cX0_removeStale 42 = .ok (.iload_n 1, 1) := by decide +kernel
theorem dX0_removeStale_43 : decode cX0_removeStale 43 = .ok (.ireturn, 1) := by decide +kernel
end
section
theorem dX1_init_0 : decode cX1_init 0 = .ok (.aload_n 0, 1) := by decide +kernel
theorem dX1_init_1 : decode cX1_init 1 = .ok (.invokespecial 3, 3) := by decide +kernel
theorem dX1_init_4 : decode cX1_init 4 = .ok (.aload_n 0, 1) := by decide +kernel
theorem dX1_init_5 : decode cX1_init 5 = .ok (.iconst 5, 1) := by decide +kernel
theorem dX1_init_6 : decode cX1_init 6 = .ok (.anewarray 9, 3) := by decide +kernel
theorem dX1_init_9 : decode cX1_init 9 = .ok (.putfield 11, 3) := by decide +kernel
theorem dX1_init_12 : decode cX1_init 12 = .ok (.aload_n 0, 1) := by decide +kernel
theorem dX1_init_13 : decode cX1_init 13 = .ok (.bipush 16, 2) := by decide +kernel
theorem dX1_init_15 : decode cX1_init 15 = .ok (.newarray .int, 2) := by decide +kernel
theorem dX1_init_17 : decode cX1_init 17 = .ok (.putfield 15, 3) := by decide +kernel
theorem dX1_init_20 : decode cX1_init 20 = .ok (.aload_n 0, 1) := by decide +kernel
theorem dX1_init_21 : decode cX1_init 21 = .ok (.bipush 16, 2) := by decide +kernel
theorem dX1_init_23 : decode cX1_init 23 = .ok (.newarray .boolean, 2) := by decide +kernel
theorem dX1_init_25 : decode cX1_init 25 = .ok (.putfield 19, 3) := by decide +kernel
theorem dX1_init_28 : decode cX1_init 28 = .ok (.iconst 0, 1) := by decide +kernel
theorem dX1_init_29 : decode cX1_init 29 = .ok (.istore_n 1, 1) := by decide +kernel
theorem dX1_init_30 : decode cX1_init 30 = .ok (.iload_n 1, 1) := by decide +kernel
theorem dX1_init_31 : decode cX1_init 31 = .ok (.bipush 16, 2) := by decide +kernel
theorem dX1_init_33 : decode cX1_init 33 = .ok (.if_icmp .ge 17, 3) := by decide +kernel
theorem dX1_init_36 : decode cX1_init 36 = .ok (.aload_n 0, 1) := by decide +kernel
theorem dX1_init_37 : decode cX1_init 37 = .ok (.getfield 15, 3) := by decide +kernel
theorem dX1_init_40 : decode cX1_init 40 = .ok (.iload_n 1, 1) := by decide +kernel
theorem dX1_init_41 : decode cX1_init 41 = .ok (.bipush (-6), 2) := by decide +kernel
theorem dX1_init_43 : decode cX1_init 43 = .ok (.iastore, 1) := by decide +kernel
theorem dX1_init_44 : decode cX1_init 44 = .ok (.iinc 1 1, 3) := by decide +kernel
theorem dX1_init_47 : decode cX1_init 47 = .ok (.goto (-17), 3) := by decide +kernel
theorem dX1_init_50 : decode cX1_init 50 = .ok (.aload_n 0, 1) := by decide +kernel
theorem dX1_init_51 : decode cX1_init 51 = .ok (.iconst 0, 1) := by decide +kernel
theorem dX1_init_52 : decode cX1_init 52 = .ok (.putfield 23, 3) := by decide +kernel
theorem dX1_init_55 : decode cX1_init 55 = .ok (.aload_n 0, 1) := by decide +kernel
theorem dX1_init_56 : decode cX1_init 56 = .ok (.bipush 10, 2) := by decide +kernel
theorem dX1_init_58 : decode cX1_init 58 = .ok (.putfield 27, 3) := by decide +kernel
theorem dX1_init_61 : decode cX1_init 61 = .ok (.aload_n 0, 1) := by decide +kernel
theorem dX1_init_62 : decode cX1_init 62 = .ok (.bipush 20, 2) := by decide +kernel
theorem dX1_init_64 : decode cX1_init 64 = .ok (.putfield 30, 3) := by decide +kernel
theorem dX1_init_67 : decode cX1_init 67 = .ok (.aload_n 0, 1) := by decide +kernel
theorem dX1_init_68 : decode cX1_init 68 = .ok (.bipush 15, 2) := by decide +kernel
theorem dX1_init_70 : decode cX1_init 70 = .ok (.putfield 33, 3) := by decide +kernel
theorem dX1_init_73 : decode cX1_init 73 = .ok (.aload_n 0, 1) := by decide +kernel
theorem dX1_init_74 : decode cX1_init 74 = .ok (.iconst 0, 1) := by decide +kernel
theorem dX1_init_75 : decode cX1_init 75 = .ok (.putfield 36, 3) := by decide +kernel
theorem dX1_init_78 : decode cX1_init 78 = .ok (.aload_n 0, 1) := by decide +kernel
theorem dX1_init_79 : decode cX1_init 79 = .ok (.iconst 0, 1) := by decide +kernel
theorem dX1_init_80 : decode cX1_init 80 = .ok (.putfield 40, 3) := by decide +kernel
theorem dX1_init_83 : decode cX1_init 83 = .ok (.return_, 1) := by decide +kernel
set_option maxRecDepth 20000 in
theorem ggX1_setRestartTime_X1_isTime : GoodIn wsX1_setRestartTime wsX1_isTime := goodIn_r _ [5] (by decide +kernel) (by decide +kernel)
set_option maxRecDepth 20000 in
theorem gX1_setRestartTime_X1_isTime : GoodIn wsX1_setRestartTime (va_wsS RX1 43 yX1_isTime wsX1_isTime) := goodIn_app (goodIn_of _ (by decide +kernel)) ggX1_setRestartTime_X1_isTime
theorem dX1_setRestartTime_0 : decode cX1_setRestartTime 0 = .ok (.iload_n 1, 1) := by decide +kernel
theorem dX1_setRestartTime_1 : decode cX1_setRestartTime 1 = .ok (.invokestatic 43, 3) := by decide +kernel
theorem dX1_setRestartTime_4 : decode cX1_setRestartTime 4 = .ok (.ifCond .ne 6, 3) := by decide +kernel
theorem dX1_setRestartTime_7 : decode cX1_setRestartTime 7 = .ok (.bipush (-3), 2) := by decide +kernel
theorem dX1_setRestartTime_9 : decode cX1_setRestartTime 9 = .ok (.ireturn, 1) := by decide +kernel
theorem dX1_setRestartTime_10 : decode cX1_setRestartTime 10 = .ok (.aload_n 0, 1) := by decide +kernel
theorem dX1_setRestartTime_11 : decode cX1_setRestartTime 11 = .ok (.getfield 27, 3) := by decide +kernel
theorem dX1_setRestartTime_14 : decode cX1_setRestartTime 14 = .ok (.istore_n 2, 1) := by decide +kernel
theorem dX1_setRestartTime_15 : decode cX1_setRestartTime 15 = .ok (.aload_n 0, 1) := by decide +kernel
theorem dX1_setRestartTime_16 : decode cX1_setRestartTime 16 = .ok (.iload_n 1, 1) := by decide +kernel
theorem dX1_setRestartTime_17 : decode cX1_setRestartTime 17 = .ok (.putfield 27, 3) := by decide +kernel
theorem dX1_setRestartTime_20 : decode cX1_setRestartTime 20 = .ok (.iload_n 2, 1) := by decide +kernel
theorem dX1_setRestartTime_21 : decode cX1_setRestartTime 21 = .ok (.ireturn, 1) := by decide +kernel
set_option maxRecDepth 20000 in
theorem ggX1_setStaleTime_X1_isTime : GoodIn wsX1_setStaleTime wsX1_isTime := goodIn_r _ [5] (by decide +kernel) (by decide +kernel)
set_option maxRecDepth 20000 in
theorem gX1_setStaleTime_X1_isTime : GoodIn wsX1_setStaleTime (va_wsS RX1 43 yX1_isTime wsX1_isTime) := goodIn_app (goodIn_of _ (by decide +kernel)) ggX1_setStaleTime_X1_isTime
theorem dX1_setStaleTime_0 : decode cX1_setStaleTime 0 = .ok (.iload_n 1, 1) := by decide +kernel
theorem dX1_setStaleTime_1 : decode cX1_setStaleTime 1 = .ok (.invokestatic 43, 3) := by decide +kernel
theorem dX1_setStaleTime_4 : decode cX1_setStaleTime 4 = .ok (.ifCond .ne 6, 3) := by decide +kernel
theorem dX1_setStaleTime_7 : decode cX1_setStaleTime 7 = .ok (.bipush (-3), 2) := by decide +kernel
theorem dX1_setStaleTime_9 : decode cX1_setStaleTime 9 = .ok (.ireturn, 1) := by decide +kernel
theorem dX1_setStaleTime_10 : decode cX1_setStaleTime 10 = .ok (.aload_n 0, 1) := by decide +kernel
theorem dX1_setStaleTime_11 : decode cX1_setStaleTime 11 = .ok (.getfield 30, 3) := by decide +kernel
theorem dX1_setStaleTime_14 : decode cX1_setStaleTime 14 = .ok (.istore_n 2, 1) := by decide +kernel
theorem dX1_setStaleTime_15 : decode cX1_setStaleTime 15 = .ok (.aload_n 0, 1) := by decide +kernel
theorem dX1_setStaleTime_16 : decode cX1_setStaleTime 16 = .ok (.iload_n 1, 1) := by decide +kernel
theorem dX1_setStaleTime_17 : decode cX1_setStaleTime 17 = .ok (.putfield 30, 3) := by decide +kernel
theorem dX1_setStaleTime_20 : decode cX1_setStaleTime 20 = .ok (.iload_n 2, 1) := by decide +kernel
theorem dX1_setStaleTime_21 : decode cX1_setStaleTime 21 = .ok (.ireturn, 1) := by decide +kernel
set_option maxRecDepth 20000 in
theorem ggX1_setDeferralTime_X1_isTime : GoodIn wsX1_setDeferralTime wsX1_isTime := goodIn_r _ [5] (by decide +kernel) (by decide +kernel)
set_option maxRecDepth 20000 in
theorem gX1_setDeferralTime_X1_isTime : GoodIn wsX1_setDeferralTime (va_wsS RX1 43 yX1_isTime wsX1_isTime) := goodIn_app (goodIn_of _ (by decide +kernel)) ggX1_setDeferralTime_X1_isTime
theorem dX1_setDeferralTime_0 : decode cX1_setDeferralTime 0 = .ok (.iload_n 1, 1) := by decide +kernel
theorem dX1_setDeferralTime_1 : decode cX1_setDeferralTime 1 = .ok (.invokestatic 43, 3) := by decide +kernel
theorem dX1_setDeferralTime_4 : decode cX1_setDeferralTime 4 = .ok (.ifCond .ne 6, 3) := by decide +kernel
theorem dX1_setDeferralTime_7 : decode cX1_setDeferralTime 7 = .ok (.bipush (-3), 2) := by decide +kernel
theorem dX1_setDeferralTime_9 : decode cX1_setDeferralTime 9 = .ok (.ireturn, 1) := by decide +kernel
theorem dX1_setDeferralTime_10 : decode cX1_setDeferralTime 10 = .ok (.aload_n 0, 1) := by decide +kernel
theorem dX1_setDeferralTime_11 : decode cX1_setDeferralTime 11 = .ok (.getfield 33, 3) := by decide +kernel
theorem dX1_setDeferralTime_14 : decode cX1_setDeferralTime 14 = .ok (.istore_n 2, 1) := by decide +kernel
theorem dX1_setDeferralTime_15 : decode cX1_setDeferralTime 15 = .ok (.aload_n 0, 1) := by decide +kernel
theorem dX1_setDeferralTime_16 : decode cX1_setDeferralTime 16 = .ok (.iload_n 1, 1) := by decide +kernel
theorem dX1_setDeferralTime_17 : decode cX1_setDeferralTime 17 = .ok (.putfield 33, 3) := by decide +kernel
theorem dX1_setDeferralTime_20 : decode cX1_setDeferralTime 20 = .ok (.iload_n 2, 1) := by decide +kernel
theorem dX1_setDeferralTime_21 : decode cX1_setDeferralTime 21 = .ok (.ireturn, 1) := by decide +kernel
set_option maxRecDepth 20000 in
theorem ggX1_addPeer_X0_init : GoodIn wsX1_addPeer wsX0_init := goodIn_r _ [8, 9, 10, 11, 12, 13, 14, 15, 16, 17, 18, 19, 20, 21, 55, 56, 57, 58, 59, 60, 61, 62] (by decide +kernel) (by decide +kernel)
set_option maxRecDepth 20000 in
theorem gX1_addPeer_X0_init_n47 : GoodIn wsX1_addPeer (wsX0_init) := ggX1_addPeer_X0_init
set_option maxRecDepth 20000 in
theorem ggX1_addPeer_X1_selectAll : GoodIn wsX1_addPeer wsX1_selectAll := goodIn_r _ [26, 27, 28, 29, 25, 30, 2, 31, 32, 33, 5, 34, 35, 18, 14, 36, 37, 38, 39, 40, 41, 42, 17, 15, 43, 44, 45, 46, 47, 48, 49, 50, 51, 52, 53, 54, 55, 56, 57, 58, 59, 60, 61, 62] (by decide +kernel) (by decide +kernel)
set_option maxRecDepth 20000 in
theorem gX1_addPeer_X1_selectAll : GoodIn wsX1_addPeer (wsV RX1 50 RX1 yX1_selectAll wsX1_selectAll) := goodIn_app (goodIn_of _ (by decide +kernel)) ggX1_addPeer_X1_selectAll
theorem dX1_addPeer_0 : decode cX1_addPeer 0 = .ok (.aload_n 0, 1) := by decide +kernel
theorem dX1_addPeer_1 : decode cX1_addPeer 1 = .ok (.getfield 23, 3) := by decide +kernel
theorem dX1_addPeer_4 : decode cX1_addPeer 4 = .ok (.ifCond .lt 11, 3) := by decide +kernel
theorem dX1_addPeer_7 : decode cX1_addPeer 7 = .ok (.aload_n 0, 1) := by decide +kernel
theorem dX1_addPeer_8 : decode cX1_addPeer 8 = .ok (.getfield 23, 3) := by decide +kernel
theorem dX1_addPeer_11 : decode cX1_addPeer 11 = .ok (.iconst 5, 1) := by decide +kernel
theorem dX1_addPeer_12 : decode cX1_addPeer 12 = .ok (.if_icmp .lt 6, 3) := by decide +kernel
theorem dX1_addPeer_15 : decode cX1_addPeer 15 = .ok (.bipush (-5), 2) := by decide +kernel
theorem dX1_addPeer_17 : decode cX1_addPeer 17 = .ok (.ireturn, 1) := by decide +kernel
theorem dX1_addPeer_18 : decode cX1_addPeer 18 = .ok (.aload_n 0, 1) := by decide +kernel
theorem dX1_addPeer_19 : decode cX1_addPeer 19 = .ok (.getfield 23, 3) := by decide +kernel
theorem dX1_addPeer_22 : decode cX1_addPeer 22 = .ok (.istore_n 2, 1) := by decide +kernel
theorem dX1_addPeer_23 : decode cX1_addPeer 23 = .ok (.aload_n 0, 1) := by decide +kernel
theorem dX1_addPeer_24 : decode cX1_addPeer 24 = .ok (.getfield 11, 3) := by decide +kernel
theorem dX1_addPeer_27 : decode cX1_addPeer 27 = .ok (.iload_n 2, 1) := by decide +kernel
theorem dX1_addPeer_28 : decode cX1_addPeer 28 = .ok (.new 9, 3) := by decide +kernel
theorem dX1_addPeer_31 : decode cX1_addPeer 31 = .ok (.dup, 1) := by decide +kernel
theorem dX1_addPeer_32 : decode cX1_addPeer 32 = .ok (.iload_n 1, 1) := by decide +kernel
theorem dX1_addPeer_33 : decode cX1_addPeer 33 = .ok (.invokespecial 47, 3) := by decide +kernel
theorem dX1_addPeer_36 : decode cX1_addPeer 36 = .ok (.aastore, 1) := by decide +kernel
theorem dX1_addPeer_37 : decode cX1_addPeer 37 = .ok (.aload_n 0, 1) := by decide +kernel
theorem dX1_addPeer_38 : decode cX1_addPeer 38 = .ok (.iload_n 2, 1) := by decide +kernel
theorem dX1_addPeer_39 : decode cX1_addPeer 39 = .ok (.iconst 1, 1) := by decide +kernel
theorem dX1_addPeer_40 : decode cX1_addPeer 40 = .ok (.iadd, 1) := by decide +kernel
theorem dX1_addPeer_41 : decode cX1_addPeer 41 = .ok (.putfield 23, 3) := by decide +kernel
theorem dX1_addPeer_44 : decode cX1_addPeer 44 = .ok (.aload_n 0, 1) := by decide +kernel
theorem dX1_addPeer_45 : decode cX1_addPeer 45 = .ok (.getfield 36, 3) := by decide +kernel
theorem dX1_addPeer_48 : decode cX1_addPeer 48 = .ok (.ifCond .ne 7, 3) := by decide +kernel
theorem dX1_addPeer_51 : decode cX1_addPeer 51 = .ok (.aload_n 0, 1) := by decide +kernel
theorem dX1_addPeer_52 : decode cX1_addPeer 52 = .ok (.invokevirtual 50, 3) := by decide +kernel
theorem dX1_addPeer_55 : decode cX1_addPeer 55 = .ok (.iload_n 2, 1) := by decide +kernel
theorem dX1_addPeer_56 : decode cX1_addPeer 56 = .ok (.ireturn, 1) := by decide +kernel
set_option maxRecDepth 20000 in
theorem ggX1_announce_X1_findPeer : GoodIn wsX1_announce wsX1_findPeer := goodIn_r _ [5, 6, 47, 48, 49, 50, 51, 52, 53, 54, 55] (by decide +kernel) (by decide +kernel)
set_option maxRecDepth 20000 in
theorem gX1_announce_X1_findPeer : GoodIn wsX1_announce (wsV RX1 53 RX1 yX1_findPeer wsX1_findPeer) := goodIn_app (goodIn_of _ (by decide +kernel)) ggX1_announce_X1_findPeer
set_option maxRecDepth 20000 in
theorem ggX1_announce_X1_routeOf : GoodIn wsX1_announce wsX1_routeOf := goodIn_r _ [9] (by decide +kernel) (by decide +kernel)
set_option maxRecDepth 20000 in
theorem gX1_announce_X1_routeOf : GoodIn wsX1_announce (va_wsS RX1 57 yX1_routeOf wsX1_routeOf) := goodIn_app (goodIn_of _ (by decide +kernel)) ggX1_announce_X1_routeOf
set_option maxRecDepth 20000 in
theorem ggX1_announce_X1_selectAfterOffer : GoodIn wsX1_announce wsX1_selectAfterOffer := goodIn_r _ [13, 14, 15, 16, 17, 4, 18, 6, 19, 20, 21, 22, 23, 24, 25, 26, 27, 28, 29, 30, 31, 32, 33, 34, 35, 36, 37, 38, 47, 48, 49, 50, 51, 52, 53, 54, 55, 39, 40, 41, 42, 43, 44, 45, 46] (by decide +kernel) (by decide +kernel)
set_option maxRecDepth 20000 in
theorem gX1_announce_X1_selectAfterOffer : GoodIn wsX1_announce (wsV RX1 64 RX1 yX1_selectAfterOffer wsX1_selectAfterOffer) := goodIn_app (goodIn_of _ (by decide +kernel)) ggX1_announce_X1_selectAfterOffer
theorem dX1_announce_0 : decode cX1_announce 0 = .ok (.aload_n 0, 1) := by decide +kernel
theorem dX1_announce_1 : decode cX1_announce 1 = .ok (.iload_n 1, 1) := by decide +kernel
theorem dX1_announce_2 : decode cX1_announce 2 = .ok (.invokevirtual 53, 3) := by decide +kernel
theorem dX1_announce_5 : decode cX1_announce 5 = .ok (.astore 5, 2) := by decide +kernel
theorem dX1_announce_7 : decode cX1_announce 7 = .ok (.aload 5, 2) := by decide +kernel
theorem dX1_announce_9 : decode cX1_announce 9 = .ok (.ifnonnull 5, 3) := by decide +kernel
theorem dX1_announce_12 : decode cX1_announce 12 = .ok (.iconst (-1), 1) := by decide +kernel
theorem dX1_announce_13 : decode cX1_announce 13 = .ok (.ireturn, 1) := by decide +kernel
theorem dX1_announce_14 : decode cX1_announce 14 = .ok (.iload_n 2, 1) := by decide +kernel
theorem dX1_announce_15 : decode cX1_announce 15 = .ok (.iload_n 3, 1) := by decide +kernel
theorem dX1_announce_16 : decode cX1_announce 16 = .ok (.invokestatic 57, 3) := by decide +kernel
theorem dX1_announce_19 : decode cX1_announce 19 = .ok (.istore 6, 2) := by decide +kernel
theorem dX1_announce_21 : decode cX1_announce 21 = .ok (.iload 6, 2) := by decide +kernel
theorem dX1_announce_23 : decode cX1_announce 23 = .ok (.ifCond .ge 6, 3) := by decide +kernel
theorem dX1_announce_26 : decode cX1_announce 26 = .ok (.bipush (-2), 2) := by decide +kernel
theorem dX1_announce_28 : decode cX1_announce 28 = .ok (.ireturn, 1) := by decide +kernel
theorem dX1_announce_29 : decode cX1_announce 29 = .ok (.iload 4, 2) := by decide +kernel
theorem dX1_announce_31 : decode cX1_announce 31 = .ok (.iconst 1, 1) := by decide +kernel
theorem dX1_announce_32 : decode cX1_announce 32 = .ok (.if_icmp .lt 10, 3) := by decide +kernel
theorem dX1_announce_35 : decode cX1_announce 35 = .ok (.iload 4, 2) := by decide +kernel
theorem dX1_announce_37 : decode cX1_announce 37 = .ok (.bipush 20, 2) := by decide +kernel
theorem dX1_announce_39 : decode cX1_announce 39 = .ok (.if_icmp .le 6, 3) := by decide +kernel
theorem dX1_announce_42 : decode cX1_announce 42 = .ok (.bipush (-3), 2) := by decide +kernel
theorem dX1_announce_44 : decode cX1_announce 44 = .ok (.ireturn, 1) := by decide +kernel
theorem dX1_announce_45 : decode cX1_announce 45 = .ok (.aload 5, 2) := by decide +kernel
theorem dX1_announce_47 : decode cX1_announce 47 = .ok (.getfield 61, 3) := by decide +kernel
theorem dX1_announce_50 : decode cX1_announce 50 = .ok (.iload 6, 2) := by decide +kernel
theorem dX1_announce_52 : decode cX1_announce 52 = .ok (.iaload, 1) := by decide +kernel
theorem dX1_announce_53 : decode cX1_announce 53 = .ok (.istore 7, 2) := by decide +kernel
theorem dX1_announce_55 : decode cX1_announce 55 = .ok (.aload 5, 2) := by decide +kernel
theorem dX1_announce_57 : decode cX1_announce 57 = .ok (.getfield 61, 3) := by decide +kernel
theorem dX1_announce_60 : decode cX1_announce 60 = .ok (.iload 6, 2) := by decide +kernel
theorem dX1_announce_62 : decode cX1_announce 62 = .ok (.iload 4, 2) := by decide +kernel
theorem dX1_announce_64 : decode cX1_announce 64 = .ok (.iastore, 1) := by decide +kernel
theorem dX1_announce_65 : decode cX1_announce 65 = .ok (.aload_n 0, 1) := by decide +kernel
theorem dX1_announce_66 : decode cX1_announce 66 = .ok (.aload 5, 2) := by decide +kernel
theorem dX1_announce_68 : decode cX1_announce 68 = .ok (.iload 6, 2) := by decide +kernel
theorem dX1_announce_70 : decode cX1_announce 70 = .ok (.invokevirtual 64, 3) := by decide +kernel
theorem dX1_announce_73 : decode cX1_announce 73 = .ok (.iload 7, 2) := by decide +kernel
theorem dX1_announce_75 : decode cX1_announce 75 = .ok (.ireturn, 1) := by decide +kernel
set_option maxRecDepth 20000 in
theorem ggX1_withdraw_X1_findPeer : GoodIn wsX1_withdraw wsX1_findPeer := goodIn_r _ [5, 6, 47, 48, 49, 50, 51, 52, 53, 54, 55] (by decide +kernel) (by decide +kernel)
set_option maxRecDepth 20000 in
theorem gX1_withdraw_X1_findPeer : GoodIn wsX1_withdraw (wsV RX1 53 RX1 yX1_findPeer wsX1_findPeer) := goodIn_app (goodIn_of _ (by decide +kernel)) ggX1_withdraw_X1_findPeer
set_option maxRecDepth 20000 in
theorem ggX1_withdraw_X1_routeOf : GoodIn wsX1_withdraw wsX1_routeOf := goodIn_r _ [9] (by decide +kernel) (by decide +kernel)
set_option maxRecDepth 20000 in
theorem gX1_withdraw_X1_routeOf : GoodIn wsX1_withdraw (va_wsS RX1 57 yX1_routeOf wsX1_routeOf) := goodIn_app (goodIn_of _ (by decide +kernel)) ggX1_withdraw_X1_routeOf
set_option maxRecDepth 20000 in
theorem ggX1_withdraw_X1_selectAfterOffer : GoodIn wsX1_withdraw wsX1_selectAfterOffer := goodIn_r _ [13, 14, 15, 16, 17, 4, 18, 6, 19, 20, 21, 22, 23, 24, 25, 26, 27, 28, 29, 30, 31, 32, 33, 34, 35, 36, 37, 38, 47, 48, 49, 50, 51, 52, 53, 54, 55, 39, 40, 41, 42, 43, 44, 45, 46] (by decide +kernel) (by decide +kernel)
set_option maxRecDepth 20000 in
theorem gX1_withdraw_X1_selectAfterOffer : GoodIn wsX1_withdraw (wsV RX1 64 RX1 yX1_selectAfterOffer wsX1_selectAfterOffer) := goodIn_app (goodIn_of _ (by decide +kernel)) ggX1_withdraw_X1_selectAfterOffer
theorem dX1_withdraw_0 : decode cX1_withdraw 0 = .ok (.aload_n 0, 1) := by decide +kernel
theorem dX1_withdraw_1 : decode cX1_withdraw 1 = .ok (.iload_n 1, 1) := by decide +kernel
theorem dX1_withdraw_2 : decode cX1_withdraw 2 = .ok (.invokevirtual 53, 3) := by decide +kernel
theorem dX1_withdraw_5 : decode cX1_withdraw 5 = .ok (.astore 4, 2) := by decide +kernel
theorem dX1_withdraw_7 : decode cX1_withdraw 7 = .ok (.aload 4, 2) := by decide +kernel
theorem dX1_withdraw_9 : decode cX1_withdraw 9 = .ok (.ifnonnull 5, 3) := by decide +kernel
theorem dX1_withdraw_12 : decode cX1_withdraw 12 = .ok (.iconst (-1), 1) := by decide +kernel
theorem dX1_withdraw_13 : decode cX1_withdraw 13 = .ok (.ireturn, 1) := by decide +kernel
theorem dX1_withdraw_14 : decode cX1_withdraw 14 = .ok (.iload_n 2, 1) := by decide +kernel
theorem dX1_withdraw_15 : decode cX1_withdraw 15 = .ok (.iload_n 3, 1) := by decide +kernel
theorem dX1_withdraw_16 : decode cX1_withdraw 16 = .ok (.invokestatic 57, 3) := by decide +kernel
theorem dX1_withdraw_19 : decode cX1_withdraw 19 = .ok (.istore 5, 2) := by decide +kernel
theorem dX1_withdraw_21 : decode cX1_withdraw 21 = .ok (.iload 5, 2) := by decide +kernel
theorem dX1_withdraw_23 : decode cX1_withdraw 23 = .ok (.ifCond .ge 6, 3) := by decide +kernel
theorem dX1_withdraw_26 : decode cX1_withdraw 26 = .ok (.bipush (-2), 2) := by decide +kernel
theorem dX1_withdraw_28 : decode cX1_withdraw 28 = .ok (.ireturn, 1) := by decide +kernel
theorem dX1_withdraw_29 : decode cX1_withdraw 29 = .ok (.aload 4, 2) := by decide +kernel
theorem dX1_withdraw_31 : decode cX1_withdraw 31 = .ok (.getfield 61, 3) := by decide +kernel
theorem dX1_withdraw_34 : decode cX1_withdraw 34 = .ok (.iload 5, 2) := by decide +kernel
theorem dX1_withdraw_36 : decode cX1_withdraw 36 = .ok (.iaload, 1) := by decide +kernel
theorem dX1_withdraw_37 : decode cX1_withdraw 37 = .ok (.istore 6, 2) := by decide +kernel
theorem dX1_withdraw_39 : decode cX1_withdraw 39 = .ok (.iload 6, 2) := by decide +kernel
theorem dX1_withdraw_41 : decode cX1_withdraw 41 = .ok (.ifCond .ne 6, 3) := by decide +kernel
theorem dX1_withdraw_44 : decode cX1_withdraw 44 = .ok (.bipush (-6), 2) := by decide +kernel
theorem dX1_withdraw_46 : decode cX1_withdraw 46 = .ok (.ireturn, 1) := by decide +kernel
theorem dX1_withdraw_47 : decode cX1_withdraw 47 = .ok (.aload 4, 2) := by decide +kernel
theorem dX1_withdraw_49 : decode cX1_withdraw 49 = .ok (.getfield 61, 3) := by decide +kernel
theorem dX1_withdraw_52 : decode cX1_withdraw 52 = .ok (.iload 5, 2) := by decide +kernel
theorem dX1_withdraw_54 : decode cX1_withdraw 54 = .ok (.iconst 0, 1) := by decide +kernel
theorem dX1_withdraw_55 : decode cX1_withdraw 55 = .ok (.iastore, 1) := by decide +kernel
theorem dX1_withdraw_56 : decode cX1_withdraw 56 = .ok (.aload_n 0, 1) := by decide +kernel
theorem dX1_withdraw_57 : decode cX1_withdraw 57 = .ok (.aload 4, 2) := by decide +kernel
theorem dX1_withdraw_59 : decode cX1_withdraw 59 = .ok (.iload 5, 2) := by decide +kernel
theorem dX1_withdraw_61 : decode cX1_withdraw 61 = .ok (.invokevirtual 64, 3) := by decide +kernel
theorem dX1_withdraw_64 : decode cX1_withdraw 64 = .ok (.iload 6, 2) := by decide +kernel
theorem dX1_withdraw_66 : decode cX1_withdraw 66 = .ok (.ireturn, 1) := by decide +kernel
set_option maxRecDepth 20000 in
theorem ggX1_restart_X0_loseRouter : GoodIn wsX1_restart wsX0_loseRouter := goodIn_r _ [9, 10, 11, 12, 13, 14, 15, 16, 17, 18, 7, 19, 20, 21, 22, 23, 24, 25, 26, 27, 89, 90, 91, 92, 93, 94, 95, 96] (by decide +kernel) (by decide +kernel)
set_option maxRecDepth 20000 in
theorem gX1_restart_X0_loseRouter_n74 : GoodIn wsX1_restart (wsX0_loseRouter) := ggX1_restart_X0_loseRouter
set_option maxRecDepth 20000 in
theorem ggX1_restart_X1_makeEntriesStale : GoodIn wsX1_restart wsX1_makeEntriesStale := goodIn_r _ [32, 33, 80, 81, 82, 83, 84, 85, 86, 87, 88] (by decide +kernel) (by decide +kernel)
set_option maxRecDepth 20000 in
theorem gX1_restart_X1_makeEntriesStale : GoodIn wsX1_restart (wsV RX1 78 RX1 yX1_makeEntriesStale wsX1_makeEntriesStale) := goodIn_app (goodIn_of _ (by decide +kernel)) ggX1_restart_X1_makeEntriesStale
set_option maxRecDepth 20000 in
theorem ggX1_restart_X1_removeEntries : GoodIn wsX1_restart wsX1_removeEntries := goodIn_r _ [37, 38, 80, 81, 82, 83, 84, 85, 86, 87, 88] (by decide +kernel) (by decide +kernel)
set_option maxRecDepth 20000 in
theorem gX1_restart_X1_removeEntries : GoodIn wsX1_restart (wsV RX1 81 RX1 yX1_removeEntries wsX1_removeEntries) := goodIn_app (goodIn_of _ (by decide +kernel)) ggX1_restart_X1_removeEntries
set_option maxRecDepth 20000 in
theorem ggX1_restart_X1_checkDeferral : GoodIn wsX1_restart wsX1_checkDeferral := goodIn_r _ [42, 3, 5, 43, 44, 45, 31, 46, 1, 47, 7, 48, 49, 10, 11, 50, 51, 52, 53, 54, 55, 56, 57, 58, 59, 60, 61, 62, 38, 33, 63, 64, 65, 66, 67, 68, 69, 70, 71, 72, 73, 12, 13, 74, 75, 76, 77, 78, 79, 14, 24, 25, 26, 27, 80, 81, 82, 83, 84, 85, 86, 87, 88, 89, 90, 91, 92, 93, 94, 95, 96] (by decide +kernel) (by decide +kernel)
set_option maxRecDepth 20000 in
theorem gX1_restart_X1_checkDeferral : GoodIn wsX1_restart (wsV RX1 84 RX1 yX1_checkDeferral wsX1_checkDeferral) := goodIn_app (goodIn_of _ (by decide +kernel)) ggX1_restart_X1_checkDeferral
theorem dX1_restart_0 : decode cX1_restart 0 = .ok (.iconst 0, 1) := by decide +kernel
theorem dX1_restart_1 : decode cX1_restart 1 = .ok (.istore_n 2, 1) := by decide +kernel
theorem dX1_restart_2 : decode cX1_restart 2 = .ok (.aload_n 0, 1) := by decide +kernel
theorem dX1_restart_3 : decode cX1_restart 3 = .ok (.getfield 11, 3) := by decide +kernel
theorem dX1_restart_6 : decode cX1_restart 6 = .ok (.astore_n 3, 1) := by decide +kernel
theorem dX1_restart_7 : decode cX1_restart 7 = .ok (.aload_n 3, 1) := by decide +kernel
theorem dX1_restart_8 : decode cX1_restart 8 = .ok (.arraylength, 1) := by decide +kernel
theorem dX1_restart_9 : decode cX1_restart 9 = .ok (.istore 4, 2) := by decide +kernel
theorem dX1_restart_11 : decode cX1_restart 11 = .ok (.iconst 0, 1) := by decide +kernel
theorem dX1_restart_12 : decode cX1_restart 12 = .ok (.istore 5, 2) := by decide +kernel
theorem dX1_restart_14 : decode cX1_restart 14 = .ok (.iload 5, 2) := by decide +kernel
theorem dX1_restart_16 : decode cX1_restart 16 = .ok (.iload 4, 2) := by decide +kernel
theorem dX1_restart_18 : decode cX1_restart 18 = .ok (.if_icmp .ge 46, 3) := by decide +kernel
theorem dX1_restart_21 : decode cX1_restart 21 = .ok (.aload_n 3, 1) := by decide +kernel
theorem dX1_restart_22 : decode cX1_restart 22 = .ok (.iload 5, 2) := by decide +kernel
theorem dX1_restart_24 : decode cX1_restart 24 = .ok (.aaload, 1) := by decide +kernel
theorem dX1_restart_25 : decode cX1_restart 25 = .ok (.astore 6, 2) := by decide +kernel
theorem dX1_restart_27 : decode cX1_restart 27 = .ok (.aload 6, 2) := by decide +kernel
theorem dX1_restart_29 : decode cX1_restart 29 = .ok (.ifnull 29, 3) := by decide +kernel
theorem dX1_restart_32 : decode cX1_restart 32 = .ok (.aload 6, 2) := by decide +kernel
theorem dX1_restart_34 : decode cX1_restart 34 = .ok (.iconst 0, 1) := by decide +kernel
theorem dX1_restart_35 : decode cX1_restart 35 = .ok (.putfield 68, 3) := by decide +kernel
theorem dX1_restart_38 : decode cX1_restart 38 = .ok (.aload 6, 2) := by decide +kernel
theorem dX1_restart_40 : decode cX1_restart 40 = .ok (.getfield 71, 3) := by decide +kernel
theorem dX1_restart_43 : decode cX1_restart 43 = .ok (.ifCond .ne 15, 3) := by decide +kernel
theorem dX1_restart_46 : decode cX1_restart 46 = .ok (.aload 6, 2) := by decide +kernel
theorem dX1_restart_48 : decode cX1_restart 48 = .ok (.aload_n 0, 1) := by decide +kernel
theorem dX1_restart_49 : decode cX1_restart 49 = .ok (.getfield 27, 3) := by decide +kernel
theorem dX1_restart_52 : decode cX1_restart 52 = .ok (.invokevirtual 74, 3) := by decide +kernel
theorem dX1_restart_55 : decode cX1_restart 55 = .ok (.iinc 2 1, 3) := by decide +kernel
theorem dX1_restart_58 : decode cX1_restart 58 = .ok (.iinc 5 1, 3) := by decide +kernel
theorem dX1_restart_61 : decode cX1_restart 61 = .ok (.goto (-47), 3) := by decide +kernel
theorem dX1_restart_64 : decode cX1_restart 64 = .ok (.iload_n 1, 1) := by decide +kernel
theorem dX1_restart_65 : decode cX1_restart 65 = .ok (.ifCond .eq 10, 3) := by decide +kernel
theorem dX1_restart_68 : decode cX1_restart 68 = .ok (.aload_n 0, 1) := by decide +kernel
theorem dX1_restart_69 : decode cX1_restart 69 = .ok (.invokevirtual 78, 3) := by decide +kernel
theorem dX1_restart_72 : decode cX1_restart 72 = .ok (.goto 7, 3) := by decide +kernel
theorem dX1_restart_75 : decode cX1_restart 75 = .ok (.aload_n 0, 1) := by decide +kernel
theorem dX1_restart_76 : decode cX1_restart 76 = .ok (.invokevirtual 81, 3) := by decide +kernel
theorem dX1_restart_79 : decode cX1_restart 79 = .ok (.aload_n 0, 1) := by decide +kernel
theorem dX1_restart_80 : decode cX1_restart 80 = .ok (.iconst 1, 1) := by decide +kernel
theorem dX1_restart_81 : decode cX1_restart 81 = .ok (.putfield 36, 3) := by decide +kernel
theorem dX1_restart_84 : decode cX1_restart 84 = .ok (.aload_n 0, 1) := by decide +kernel
theorem dX1_restart_85 : decode cX1_restart 85 = .ok (.aload_n 0, 1) := by decide +kernel
theorem dX1_restart_86 : decode cX1_restart 86 = .ok (.getfield 33, 3) := by decide +kernel
theorem dX1_restart_89 : decode cX1_restart 89 = .ok (.putfield 40, 3) := by decide +kernel
theorem dX1_restart_92 : decode cX1_restart 92 = .ok (.aload_n 0, 1) := by decide +kernel
theorem dX1_restart_93 : decode cX1_restart 93 = .ok (.invokevirtual 84, 3) := by decide +kernel
theorem dX1_restart_96 : decode cX1_restart 96 = .ok (.iload_n 2, 1) := by decide +kernel
theorem dX1_restart_97 : decode cX1_restart 97 = .ok (.ireturn, 1) := by decide +kernel
set_option maxRecDepth 20000 in
theorem ggX1_reconnect_X1_findPeer : GoodIn wsX1_reconnect wsX1_findPeer := goodIn_r _ [7, 8, 78, 79, 80, 81, 82, 83, 84, 85, 86] (by decide +kernel) (by decide +kernel)
set_option maxRecDepth 20000 in
theorem gX1_reconnect_X1_findPeer : GoodIn wsX1_reconnect (wsV RX1 53 RX1 yX1_findPeer wsX1_findPeer) := goodIn_app (goodIn_of _ (by decide +kernel)) ggX1_reconnect_X1_findPeer
set_option maxRecDepth 20000 in
theorem ggX1_reconnect_X0_meetRouter : GoodIn wsX1_reconnect wsX0_meetRouter := goodIn_r _ [12, 13, 14, 15, 70, 71, 72, 73, 74, 75, 76, 77] (by decide +kernel) (by decide +kernel)
set_option maxRecDepth 20000 in
theorem gX1_reconnect_X0_meetRouter_n87 : GoodIn wsX1_reconnect (wsX0_meetRouter) := ggX1_reconnect_X0_meetRouter
set_option maxRecDepth 20000 in
theorem ggX1_reconnect_X1_selectAll : GoodIn wsX1_reconnect wsX1_selectAll := goodIn_r _ [19, 20, 21, 22, 6, 23, 8, 24, 25, 26, 10, 27, 28, 13, 29, 30, 31, 32, 33, 34, 35, 36, 37, 38, 39, 40, 41, 78, 79, 80, 81, 82, 83, 84, 85, 86, 70, 71, 72, 73, 74, 75, 76, 77] (by decide +kernel) (by decide +kernel)
set_option maxRecDepth 20000 in
theorem gX1_reconnect_X1_selectAll : GoodIn wsX1_reconnect (wsV RX1 50 RX1 yX1_selectAll wsX1_selectAll) := goodIn_app (goodIn_of _ (by decide +kernel)) ggX1_reconnect_X1_selectAll
set_option maxRecDepth 20000 in
theorem ggX1_reconnect_X0_endResync : GoodIn wsX1_reconnect wsX0_endResync := goodIn_r _ [44, 15, 45, 46, 47, 10, 48, 37, 38, 70, 71, 72, 73, 74, 75, 76, 77] (by decide +kernel) (by decide +kernel)
set_option maxRecDepth 20000 in
theorem gX1_reconnect_X0_endResync_n90 : GoodIn wsX1_reconnect (wsX0_endResync) := ggX1_reconnect_X0_endResync
set_option maxRecDepth 20000 in
theorem ggX1_reconnect_X1_checkDeferral : GoodIn wsX1_reconnect wsX1_checkDeferral := goodIn_r _ [52, 2, 53, 54, 55, 56, 6, 57, 8, 58, 10, 59, 60, 61, 13, 62, 63, 64, 65, 66, 16, 17, 18, 19, 20, 21, 22, 23, 24, 25, 26, 27, 28, 29, 30, 31, 32, 33, 34, 35, 36, 37, 38, 39, 40, 41, 42, 43, 44, 15, 45, 46, 47, 48, 78, 79, 80, 81, 82, 83, 84, 85, 86, 70, 71, 72, 73, 74, 75, 76, 77] (by decide +kernel) (by decide +kernel)
set_option maxRecDepth 20000 in
theorem gX1_reconnect_X1_checkDeferral : GoodIn wsX1_reconnect (wsV RX1 84 RX1 yX1_checkDeferral wsX1_checkDeferral) := goodIn_app (goodIn_of _ (by decide +kernel)) ggX1_reconnect_X1_checkDeferral
set_option maxRecDepth 20000 in
theorem ggX1_reconnect_X0_countOffers : GoodIn wsX1_reconnect wsX0_countOffers := goodIn_r _ [69, 29, 70, 71, 72, 73, 74, 75, 76, 77] (by decide +kernel) (by decide +kernel)
set_option maxRecDepth 20000 in
theorem gX1_reconnect_X0_countOffers_n93 : GoodIn wsX1_reconnect (wsX0_countOffers) := ggX1_reconnect_X0_countOffers
theorem dX1_reconnect_0 : decode cX1_reconnect 0 = .ok (.aload_n 0, 1) := by decide +kernel
theorem dX1_reconnect_1 : decode cX1_reconnect 1 = .ok (.iload_n 1, 1) := by decide +kernel
theorem dX1_reconnect_2 : decode cX1_reconnect 2 = .ok (.invokevirtual 53, 3) := by decide +kernel
theorem dX1_reconnect_5 : decode cX1_reconnect 5 = .ok (.astore_n 2, 1) := by decide +kernel
theorem dX1_reconnect_6 : decode cX1_reconnect 6 = .ok (.aload_n 2, 1) := by decide +kernel
theorem dX1_reconnect_7 : decode cX1_reconnect 7 = .ok (.ifnonnull 5, 3) := by decide +kernel
theorem dX1_reconnect_10 : decode cX1_reconnect 10 = .ok (.iconst (-1), 1) := by decide +kernel
theorem dX1_reconnect_11 : decode cX1_reconnect 11 = .ok (.ireturn, 1) := by decide +kernel
theorem dX1_reconnect_12 : decode cX1_reconnect 12 = .ok (.aload_n 2, 1) := by decide +kernel
theorem dX1_reconnect_13 : decode cX1_reconnect 13 = .ok (.getfield 71, 3) := by decide +kernel
theorem dX1_reconnect_16 : decode cX1_reconnect 16 = .ok (.ifCond .ne 6, 3) := by decide +kernel
theorem dX1_reconnect_19 : decode cX1_reconnect 19 = .ok (.bipush (-4), 2) := by decide +kernel
theorem dX1_reconnect_21 : decode cX1_reconnect 21 = .ok (.ireturn, 1) := by decide +kernel
theorem dX1_reconnect_22 : decode cX1_reconnect 22 = .ok (.aload_n 2, 1) := by decide +kernel
theorem dX1_reconnect_23 : decode cX1_reconnect 23 = .ok (.aload_n 0, 1) := by decide +kernel
theorem dX1_reconnect_24 : decode cX1_reconnect 24 = .ok (.getfield 30, 3) := by decide +kernel
theorem dX1_reconnect_27 : decode cX1_reconnect 27 = .ok (.invokevirtual 87, 3) := by decide +kernel
theorem dX1_reconnect_30 : decode cX1_reconnect 30 = .ok (.aload_n 0, 1) := by decide +kernel
theorem dX1_reconnect_31 : decode cX1_reconnect 31 = .ok (.getfield 36, 3) := by decide +kernel
theorem dX1_reconnect_34 : decode cX1_reconnect 34 = .ok (.ifCond .ne 11, 3) := by decide +kernel
theorem dX1_reconnect_37 : decode cX1_reconnect 37 = .ok (.aload_n 0, 1) := by decide +kernel
theorem dX1_reconnect_38 : decode cX1_reconnect 38 = .ok (.invokevirtual 50, 3) := by decide +kernel
theorem dX1_reconnect_41 : decode cX1_reconnect 41 = .ok (.aload_n 2, 1) := by decide +kernel
theorem dX1_reconnect_42 : decode cX1_reconnect 42 = .ok (.invokevirtual 90, 3) := by decide +kernel
theorem dX1_reconnect_45 : decode cX1_reconnect 45 = .ok (.aload_n 0, 1) := by decide +kernel
theorem dX1_reconnect_46 : decode cX1_reconnect 46 = .ok (.invokevirtual 84, 3) := by decide +kernel
theorem dX1_reconnect_49 : decode cX1_reconnect 49 = .ok (.aload_n 2, 1) := by decide +kernel
theorem dX1_reconnect_50 : decode cX1_reconnect 50 = .ok (.invokevirtual 93, 3) := by decide +kernel
theorem dX1_reconnect_53 : decode cX1_reconnect 53 = .ok (.ireturn, 1) := by decide +kernel
set_option maxRecDepth 20000 in
theorem ggX1_disconnect_X1_findPeer : GoodIn wsX1_disconnect wsX1_findPeer := goodIn_r _ [6, 7, 78, 79, 80, 81, 82, 83, 84, 85, 86] (by decide +kernel) (by decide +kernel)
set_option maxRecDepth 20000 in
theorem gX1_disconnect_X1_findPeer : GoodIn wsX1_disconnect (wsV RX1 53 RX1 yX1_findPeer wsX1_findPeer) := goodIn_app (goodIn_of _ (by decide +kernel)) ggX1_disconnect_X1_findPeer
set_option maxRecDepth 20000 in
theorem ggX1_disconnect_X0_goDown : GoodIn wsX1_disconnect wsX0_goDown := goodIn_r _ [11, 12, 13, 14, 15, 16, 17, 9, 18, 19, 20, 70, 71, 72, 73, 74, 75, 76, 77] (by decide +kernel) (by decide +kernel)
set_option maxRecDepth 20000 in
theorem gX1_disconnect_X0_goDown_n97 : GoodIn wsX1_disconnect (wsX0_goDown) := ggX1_disconnect_X0_goDown
set_option maxRecDepth 20000 in
theorem ggX1_disconnect_X1_selectAll : GoodIn wsX1_disconnect wsX1_selectAll := goodIn_r _ [24, 25, 26, 27, 5, 28, 7, 29, 30, 31, 9, 32, 33, 12, 34, 35, 36, 37, 38, 39, 40, 41, 20, 19, 42, 43, 44, 78, 79, 80, 81, 82, 83, 84, 85, 86, 70, 71, 72, 73, 74, 75, 76, 77] (by decide +kernel) (by decide +kernel)
set_option maxRecDepth 20000 in
theorem gX1_disconnect_X1_selectAll : GoodIn wsX1_disconnect (wsV RX1 50 RX1 yX1_selectAll wsX1_selectAll) := goodIn_app (goodIn_of _ (by decide +kernel)) ggX1_disconnect_X1_selectAll
set_option maxRecDepth 20000 in
theorem ggX1_disconnect_X1_checkDeferral : GoodIn wsX1_disconnect wsX1_checkDeferral := goodIn_r _ [48, 1, 49, 50, 51, 52, 5, 53, 7, 54, 9, 55, 56, 57, 12, 58, 59, 60, 61, 62, 21, 22, 23, 24, 25, 26, 27, 28, 29, 30, 31, 32, 33, 34, 35, 36, 37, 38, 39, 40, 41, 20, 19, 42, 43, 44, 63, 64, 65, 14, 66, 67, 68, 69, 78, 79, 80, 81, 82, 83, 84, 85, 86, 70, 71, 72, 73, 74, 75, 76, 77] (by decide +kernel) (by decide +kernel)
set_option maxRecDepth 20000 in
theorem gX1_disconnect_X1_checkDeferral : GoodIn wsX1_disconnect (wsV RX1 84 RX1 yX1_checkDeferral wsX1_checkDeferral) := goodIn_app (goodIn_of _ (by decide +kernel)) ggX1_disconnect_X1_checkDeferral
theorem dX1_disconnect_0 : decode cX1_disconnect 0 = .ok (.aload_n 0, 1) := by decide +kernel
theorem dX1_disconnect_1 : decode cX1_disconnect 1 = .ok (.iload_n 1, 1) := by decide +kernel
theorem dX1_disconnect_2 : decode cX1_disconnect 2 = .ok (.invokevirtual 53, 3) := by decide +kernel
theorem dX1_disconnect_5 : decode cX1_disconnect 5 = .ok (.astore_n 2, 1) := by decide +kernel
theorem dX1_disconnect_6 : decode cX1_disconnect 6 = .ok (.aload_n 2, 1) := by decide +kernel
theorem dX1_disconnect_7 : decode cX1_disconnect 7 = .ok (.ifnonnull 5, 3) := by decide +kernel
theorem dX1_disconnect_10 : decode cX1_disconnect 10 = .ok (.iconst (-1), 1) := by decide +kernel
theorem dX1_disconnect_11 : decode cX1_disconnect 11 = .ok (.ireturn, 1) := by decide +kernel
theorem dX1_disconnect_12 : decode cX1_disconnect 12 = .ok (.aload_n 2, 1) := by decide +kernel
theorem dX1_disconnect_13 : decode cX1_disconnect 13 = .ok (.getfield 71, 3) := by decide +kernel
theorem dX1_disconnect_16 : decode cX1_disconnect 16 = .ok (.iconst 2, 1) := by decide +kernel
theorem dX1_disconnect_17 : decode cX1_disconnect 17 = .ok (.if_icmp .ne 6, 3) := by decide +kernel
theorem dX1_disconnect_20 : decode cX1_disconnect 20 = .ok (.bipush (-4), 2) := by decide +kernel
theorem dX1_disconnect_22 : decode cX1_disconnect 22 = .ok (.ireturn, 1) := by decide +kernel
theorem dX1_disconnect_23 : decode cX1_disconnect 23 = .ok (.aload_n 2, 1) := by decide +kernel
theorem dX1_disconnect_24 : decode cX1_disconnect 24 = .ok (.invokevirtual 97, 3) := by decide +kernel
theorem dX1_disconnect_27 : decode cX1_disconnect 27 = .ok (.istore_n 3, 1) := by decide +kernel
theorem dX1_disconnect_28 : decode cX1_disconnect 28 = .ok (.aload_n 0, 1) := by decide +kernel
theorem dX1_disconnect_29 : decode cX1_disconnect 29 = .ok (.getfield 36, 3) := by decide +kernel
theorem dX1_disconnect_32 : decode cX1_disconnect 32 = .ok (.ifCond .ne 7, 3) := by decide +kernel
theorem dX1_disconnect_35 : decode cX1_disconnect 35 = .ok (.aload_n 0, 1) := by decide +kernel
theorem dX1_disconnect_36 : decode cX1_disconnect 36 = .ok (.invokevirtual 50, 3) := by decide +kernel
theorem dX1_disconnect_39 : decode cX1_disconnect 39 = .ok (.aload_n 0, 1) := by decide +kernel
theorem dX1_disconnect_40 : decode cX1_disconnect 40 = .ok (.invokevirtual 84, 3) := by decide +kernel
theorem dX1_disconnect_43 : decode cX1_disconnect 43 = .ok (.iload_n 3, 1) := by decide +kernel
theorem dX1_disconnect_44 : decode cX1_disconnect 44 = .ok (.ireturn, 1) := by decide +kernel
set_option maxRecDepth 20000 in
theorem ggX1_endOfTable_X1_findPeer : GoodIn wsX1_endOfTable wsX1_findPeer := goodIn_r _ [5, 6, 70, 71, 72, 73, 74, 75, 76, 77, 78] (by decide +kernel) (by decide +kernel)
set_option maxRecDepth 20000 in
theorem gX1_endOfTable_X1_findPeer : GoodIn wsX1_endOfTable (wsV RX1 53 RX1 yX1_findPeer wsX1_findPeer) := goodIn_app (goodIn_of _ (by decide +kernel)) ggX1_endOfTable_X1_findPeer
set_option maxRecDepth 20000 in
theorem ggX1_endOfTable_X1_checkDeferral : GoodIn wsX1_endOfTable wsX1_checkDeferral := goodIn_r _ [10, 11, 12, 13, 14, 15, 4, 16, 6, 17, 18, 19, 20, 21, 22, 23, 24, 25, 26, 27, 28, 29, 30, 31, 32, 33, 34, 35, 36, 37, 38, 39, 40, 41, 42, 43, 44, 45, 46, 47, 48, 49, 50, 51, 52, 53, 54, 55, 56, 57, 58, 59, 60, 61, 70, 71, 72, 73, 74, 75, 76, 77, 78, 62, 63, 64, 65, 66, 67, 68, 69] (by decide +kernel) (by decide +kernel)
set_option maxRecDepth 20000 in
theorem gX1_endOfTable_X1_checkDeferral : GoodIn wsX1_endOfTable (wsV RX1 84 RX1 yX1_checkDeferral wsX1_checkDeferral) := goodIn_app (goodIn_of _ (by decide +kernel)) ggX1_endOfTable_X1_checkDeferral
theorem dX1_endOfTable_0 : decode cX1_endOfTable 0 = .ok (.aload_n 0, 1) := by decide +kernel
theorem dX1_endOfTable_1 : decode cX1_endOfTable 1 = .ok (.iload_n 1, 1) := by decide +kernel
theorem dX1_endOfTable_2 : decode cX1_endOfTable 2 = .ok (.invokevirtual 53, 3) := by decide +kernel
theorem dX1_endOfTable_5 : decode cX1_endOfTable 5 = .ok (.astore_n 3, 1) := by decide +kernel
theorem dX1_endOfTable_6 : decode cX1_endOfTable 6 = .ok (.aload_n 3, 1) := by decide +kernel
theorem dX1_endOfTable_7 : decode cX1_endOfTable 7 = .ok (.ifnonnull 5, 3) := by decide +kernel
theorem dX1_endOfTable_10 : decode cX1_endOfTable 10 = .ok (.iconst (-1), 1) := by decide +kernel
theorem dX1_endOfTable_11 : decode cX1_endOfTable 11 = .ok (.ireturn, 1) := by decide +kernel
theorem dX1_endOfTable_12 : decode cX1_endOfTable 12 = .ok (.iload_n 2, 1) := by decide +kernel
theorem dX1_endOfTable_13 : decode cX1_endOfTable 13 = .ok (.ifCond .lt 8, 3) := by decide +kernel
theorem dX1_endOfTable_16 : decode cX1_endOfTable 16 = .ok (.iload_n 2, 1) := by decide +kernel
theorem dX1_endOfTable_17 : decode cX1_endOfTable 17 = .ok (.iconst 2, 1) := by decide +kernel
theorem dX1_endOfTable_18 : decode cX1_endOfTable 18 = .ok (.if_icmp .lt 6, 3) := by decide +kernel
theorem dX1_endOfTable_21 : decode cX1_endOfTable 21 = .ok (.bipush (-2), 2) := by decide +kernel
theorem dX1_endOfTable_23 : decode cX1_endOfTable 23 = .ok (.ireturn, 1) := by decide +kernel
theorem dX1_endOfTable_24 : decode cX1_endOfTable 24 = .ok (.aload_n 3, 1) := by decide +kernel
theorem dX1_endOfTable_25 : decode cX1_endOfTable 25 = .ok (.getfield 71, 3) := by decide +kernel
theorem dX1_endOfTable_28 : decode cX1_endOfTable 28 = .ok (.ifCond .eq 6, 3) := by decide +kernel
theorem dX1_endOfTable_31 : decode cX1_endOfTable 31 = .ok (.bipush (-4), 2) := by decide +kernel
theorem dX1_endOfTable_33 : decode cX1_endOfTable 33 = .ok (.ireturn, 1) := by decide +kernel
theorem dX1_endOfTable_34 : decode cX1_endOfTable 34 = .ok (.iconst 1, 1) := by decide +kernel
theorem dX1_endOfTable_35 : decode cX1_endOfTable 35 = .ok (.iload_n 2, 1) := by decide +kernel
theorem dX1_endOfTable_36 : decode cX1_endOfTable 36 = .ok (.ishl, 1) := by decide +kernel
theorem dX1_endOfTable_37 : decode cX1_endOfTable 37 = .ok (.istore 4, 2) := by decide +kernel
theorem dX1_endOfTable_39 : decode cX1_endOfTable 39 = .ok (.aload_n 3, 1) := by decide +kernel
theorem dX1_endOfTable_40 : decode cX1_endOfTable 40 = .ok (.getfield 68, 3) := by decide +kernel
theorem dX1_endOfTable_43 : decode cX1_endOfTable 43 = .ok (.iload 4, 2) := by decide +kernel
theorem dX1_endOfTable_45 : decode cX1_endOfTable 45 = .ok (.iand, 1) := by decide +kernel
theorem dX1_endOfTable_46 : decode cX1_endOfTable 46 = .ok (.ifCond .eq 5, 3) := by decide +kernel
theorem dX1_endOfTable_49 : decode cX1_endOfTable 49 = .ok (.iconst 0, 1) := by decide +kernel
theorem dX1_endOfTable_50 : decode cX1_endOfTable 50 = .ok (.ireturn, 1) := by decide +kernel
theorem dX1_endOfTable_51 : decode cX1_endOfTable 51 = .ok (.aload_n 3, 1) := by decide +kernel
theorem dX1_endOfTable_52 : decode cX1_endOfTable 52 = .ok (.dup, 1) := by decide +kernel
theorem dX1_endOfTable_53 : decode cX1_endOfTable 53 = .ok (.getfield 68, 3) := by decide +kernel
theorem dX1_endOfTable_56 : decode cX1_endOfTable 56 = .ok (.iload 4, 2) := by decide +kernel
theorem dX1_endOfTable_58 : decode cX1_endOfTable 58 = .ok (.ior, 1) := by decide +kernel
theorem dX1_endOfTable_59 : decode cX1_endOfTable 59 = .ok (.putfield 68, 3) := by decide +kernel
theorem dX1_endOfTable_62 : decode cX1_endOfTable 62 = .ok (.aload_n 0, 1) := by decide +kernel
theorem dX1_endOfTable_63 : decode cX1_endOfTable 63 = .ok (.invokevirtual 84, 3) := by decide +kernel
theorem dX1_endOfTable_66 : decode cX1_endOfTable 66 = .ok (.iconst 1, 1) := by decide +kernel
theorem dX1_endOfTable_67 : decode cX1_endOfTable 67 = .ok (.ireturn, 1) := by decide +kernel
set_option maxRecDepth 20000 in
theorem ggX1_tick_X1_countDownPeers : GoodIn wsX1_tick wsX1_countDownPeers := goodIn_r _ [6, 7, 8, 9, 10, 11, 12, 13, 14, 15, 16, 17, 18, 19, 20, 21, 22, 23, 24, 25, 26, 27, 28, 74, 75, 76, 77, 78, 79, 80, 81, 82, 83, 84, 85, 86, 87, 88, 89, 90] (by decide +kernel) (by decide +kernel)
set_option maxRecDepth 20000 in
theorem gX1_tick_X1_countDownPeers : GoodIn wsX1_tick (wsV RX1 100 RX1 yX1_countDownPeers wsX1_countDownPeers) := goodIn_app (goodIn_of _ (by decide +kernel)) ggX1_tick_X1_countDownPeers
set_option maxRecDepth 20000 in
theorem ggX1_tick_X1_checkDeferral : GoodIn wsX1_tick wsX1_checkDeferral := goodIn_r _ [32, 33, 1, 34, 35, 36, 5, 37, 7, 38, 9, 39, 40, 41, 18, 42, 43, 44, 45, 46, 47, 48, 49, 50, 51, 52, 53, 54, 55, 56, 57, 58, 59, 60, 61, 62, 63, 64, 65, 66, 67, 24, 23, 68, 69, 70, 71, 72, 73, 13, 25, 26, 27, 28, 74, 75, 76, 77, 78, 79, 80, 81, 82, 83, 84, 85, 86, 87, 88, 89, 90] (by decide +kernel) (by decide +kernel)
set_option maxRecDepth 20000 in
theorem gX1_tick_X1_checkDeferral : GoodIn wsX1_tick (wsV RX1 84 RX1 yX1_checkDeferral wsX1_checkDeferral) := goodIn_app (goodIn_of _ (by decide +kernel)) ggX1_tick_X1_checkDeferral
theorem dX1_tick_0 : decode cX1_tick 0 = .ok (.iload_n 1, 1) := by decide +kernel
theorem dX1_tick_1 : decode cX1_tick 1 = .ok (.iconst 1, 1) := by decide +kernel
theorem dX1_tick_2 : decode cX1_tick 2 = .ok (.if_icmp .lt 9, 3) := by decide +kernel
theorem dX1_tick_5 : decode cX1_tick 5 = .ok (.iload_n 1, 1) := by decide +kernel
theorem dX1_tick_6 : decode cX1_tick 6 = .ok (.bipush 100, 2) := by decide +kernel
theorem dX1_tick_8 : decode cX1_tick 8 = .ok (.if_icmp .le 6, 3) := by decide +kernel
theorem dX1_tick_11 : decode cX1_tick 11 = .ok (.bipush (-3), 2) := by decide +kernel
theorem dX1_tick_13 : decode cX1_tick 13 = .ok (.ireturn, 1) := by decide +kernel
theorem dX1_tick_14 : decode cX1_tick 14 = .ok (.iconst 0, 1) := by decide +kernel
theorem dX1_tick_15 : decode cX1_tick 15 = .ok (.istore_n 2, 1) := by decide +kernel
theorem dX1_tick_16 : decode cX1_tick 16 = .ok (.iconst 0, 1) := by decide +kernel
theorem dX1_tick_17 : decode cX1_tick 17 = .ok (.istore_n 3, 1) := by decide +kernel
theorem dX1_tick_18 : decode cX1_tick 18 = .ok (.iload_n 3, 1) := by decide +kernel
theorem dX1_tick_19 : decode cX1_tick 19 = .ok (.iload_n 1, 1) := by decide +kernel
theorem dX1_tick_20 : decode cX1_tick 20 = .ok (.if_icmp .ge 37, 3) := by decide +kernel
theorem dX1_tick_23 : decode cX1_tick 23 = .ok (.iload_n 2, 1) := by decide +kernel
theorem dX1_tick_24 : decode cX1_tick 24 = .ok (.aload_n 0, 1) := by decide +kernel
theorem dX1_tick_25 : decode cX1_tick 25 = .ok (.invokevirtual 100, 3) := by decide +kernel
theorem dX1_tick_28 : decode cX1_tick 28 = .ok (.iadd, 1) := by decide +kernel
theorem dX1_tick_29 : decode cX1_tick 29 = .ok (.istore_n 2, 1) := by decide +kernel
theorem dX1_tick_30 : decode cX1_tick 30 = .ok (.aload_n 0, 1) := by decide +kernel
theorem dX1_tick_31 : decode cX1_tick 31 = .ok (.getfield 40, 3) := by decide +kernel
theorem dX1_tick_34 : decode cX1_tick 34 = .ok (.ifCond .le 13, 3) := by decide +kernel
theorem dX1_tick_37 : decode cX1_tick 37 = .ok (.aload_n 0, 1) := by decide +kernel
theorem dX1_tick_38 : decode cX1_tick 38 = .ok (.dup, 1) := by decide +kernel
theorem dX1_tick_39 : decode cX1_tick 39 = .ok (.getfield 40, 3) := by decide +kernel
theorem dX1_tick_42 : decode cX1_tick 42 = .ok (.iconst 1, 1) := by decide +kernel
theorem dX1_tick_43 : decode cX1_tick 43 = .ok (.isub, 1) := by decide +kernel
theorem dX1_tick_44 : decode cX1_tick 44 = .ok (.putfield 40, 3) := by decide +kernel
theorem dX1_tick_47 : decode cX1_tick 47 = .ok (.aload_n 0, 1) := by decide +kernel
theorem dX1_tick_48 : decode cX1_tick 48 = .ok (.invokevirtual 84, 3) := by decide +kernel
theorem dX1_tick_51 : decode cX1_tick 51 = .ok (.iinc 3 1, 3) := by decide +kernel
theorem dX1_tick_54 : decode cX1_tick 54 = .ok (.goto (-36), 3) := by decide +kernel
theorem dX1_tick_57 : decode cX1_tick 57 = .ok (.iload_n 2, 1) := by decide +kernel
theorem dX1_tick_58 : decode cX1_tick 58 = .ok (.ireturn, 1) := by decide +kernel
theorem dX1_isDeferring_0 : decode cX1_isDeferring 0 = .ok (.aload_n 0, 1) := by decide +kernel
theorem dX1_isDeferring_1 : decode cX1_isDeferring 1 = .ok (.getfield 36, 3) := by decide +kernel
theorem dX1_isDeferring_4 : decode cX1_isDeferring 4 = .ok (.ifCond .eq 7, 3) := by decide +kernel
theorem dX1_isDeferring_7 : decode cX1_isDeferring 7 = .ok (.iconst 1, 1) := by decide +kernel
theorem dX1_isDeferring_8 : decode cX1_isDeferring 8 = .ok (.goto 4, 3) := by decide +kernel
theorem dX1_isDeferring_11 : decode cX1_isDeferring 11 = .ok (.iconst 0, 1) := by decide +kernel
theorem dX1_isDeferring_12 : decode cX1_isDeferring 12 = .ok (.ireturn, 1) := by decide +kernel
theorem dX1_deferralTimer_0 : decode cX1_deferralTimer 0 = .ok (.aload_n 0, 1) := by decide +kernel
theorem dX1_deferralTimer_1 : decode cX1_deferralTimer 1 = .ok (.getfield 40, 3) := by decide +kernel
theorem dX1_deferralTimer_4 : decode cX1_deferralTimer 4 = .ok (.ireturn, 1) := by decide +kernel
set_option maxRecDepth 20000 in
theorem ggX1_waitingPeers_X0_isAwaited : GoodIn wsX1_waitingPeers wsX0_isAwaited := goodIn_r _ [6, 7, 8, 9, 19, 20, 21, 22, 23, 24, 25, 26] (by decide +kernel) (by decide +kernel)
set_option maxRecDepth 20000 in
theorem gX1_waitingPeers_X0_isAwaited_n103 : GoodIn wsX1_waitingPeers (wsX0_isAwaited) := ggX1_waitingPeers_X0_isAwaited
theorem dX1_waitingPeers_0 : decode cX1_waitingPeers 0 = .ok (.aload_n 0, 1) := by decide +kernel
theorem dX1_waitingPeers_1 : decode cX1_waitingPeers 1 = .ok (.getfield 36, 3) := by decide +kernel
theorem dX1_waitingPeers_4 : decode cX1_waitingPeers 4 = .ok (.ifCond .ne 5, 3) := by decide +kernel
theorem dX1_waitingPeers_7 : decode cX1_waitingPeers 7 = .ok (.iconst 0, 1) := by decide +kernel
theorem dX1_waitingPeers_8 : decode cX1_waitingPeers 8 = .ok (.ireturn, 1) := by decide +kernel
theorem dX1_waitingPeers_9 : decode cX1_waitingPeers 9 = .ok (.iconst 0, 1) := by decide +kernel
theorem dX1_waitingPeers_10 : decode cX1_waitingPeers 10 = .ok (.istore_n 1, 1) := by decide +kernel
theorem dX1_waitingPeers_11 : decode cX1_waitingPeers 11 = .ok (.iconst 0, 1) := by decide +kernel
theorem dX1_waitingPeers_12 : decode cX1_waitingPeers 12 = .ok (.istore_n 2, 1) := by decide +kernel
theorem dX1_waitingPeers_13 : decode cX1_waitingPeers 13 = .ok (.iload_n 2, 1) := by decide +kernel
theorem dX1_waitingPeers_14 : decode cX1_waitingPeers 14 = .ok (.aload_n 0, 1) := by decide +kernel
theorem dX1_waitingPeers_15 : decode cX1_waitingPeers 15 = .ok (.getfield 11, 3) := by decide +kernel
theorem dX1_waitingPeers_18 : decode cX1_waitingPeers 18 = .ok (.arraylength, 1) := by decide +kernel
theorem dX1_waitingPeers_19 : decode cX1_waitingPeers 19 = .ok (.if_icmp .ge 33, 3) := by decide +kernel
theorem dX1_waitingPeers_22 : decode cX1_waitingPeers 22 = .ok (.aload_n 0, 1) := by decide +kernel
theorem dX1_waitingPeers_23 : decode cX1_waitingPeers 23 = .ok (.getfield 11, 3) := by decide +kernel
theorem dX1_waitingPeers_26 : decode cX1_waitingPeers 26 = .ok (.iload_n 2, 1) := by decide +kernel
theorem dX1_waitingPeers_27 : decode cX1_waitingPeers 27 = .ok (.aaload, 1) := by decide +kernel
theorem dX1_waitingPeers_28 : decode cX1_waitingPeers 28 = .ok (.astore_n 3, 1) := by decide +kernel
theorem dX1_waitingPeers_29 : decode cX1_waitingPeers 29 = .ok (.aload_n 3, 1) := by decide +kernel
theorem dX1_waitingPeers_30 : decode cX1_waitingPeers 30 = .ok (.ifnull 16, 3) := by decide +kernel
theorem dX1_waitingPeers_33 : decode cX1_waitingPeers 33 = .ok (.aload_n 3, 1) := by decide +kernel
theorem dX1_waitingPeers_34 : decode cX1_waitingPeers 34 = .ok (.invokevirtual 103, 3) := by decide +kernel
theorem dX1_waitingPeers_37 : decode cX1_waitingPeers 37 = .ok (.ifCond .eq 9, 3) := by decide +kernel
theorem dX1_waitingPeers_40 : decode cX1_waitingPeers 40 = .ok (.iload_n 1, 1) := by decide +kernel
theorem dX1_waitingPeers_41 : decode cX1_waitingPeers 41 = .ok (.iconst 1, 1) := by decide +kernel
theorem dX1_waitingPeers_42 : decode cX1_waitingPeers 42 = .ok (.iload_n 2, 1) := by decide +kernel
theorem dX1_waitingPeers_43 : decode cX1_waitingPeers 43 = .ok (.ishl, 1) := by decide +kernel
theorem dX1_waitingPeers_44 : decode cX1_waitingPeers 44 = .ok (.ior, 1) := by decide +kernel
theorem dX1_waitingPeers_45 : decode cX1_waitingPeers 45 = .ok (.istore_n 1, 1) := by decide +kernel
theorem dX1_waitingPeers_46 : decode cX1_waitingPeers 46 = .ok (.iinc 2 1, 3) := by decide +kernel
theorem dX1_waitingPeers_49 : decode cX1_waitingPeers 49 = .ok (.goto (-36), 3) := by decide +kernel
theorem dX1_waitingPeers_52 : decode cX1_waitingPeers 52 = .ok (.iload_n 1, 1) := by decide +kernel
theorem dX1_waitingPeers_53 : decode cX1_waitingPeers 53 = .ok (.ireturn, 1) := by decide +kernel
set_option maxRecDepth 20000 in
theorem ggX1_nextHop_X1_routeOf : GoodIn wsX1_nextHop wsX1_routeOf := goodIn_r _ [5] (by decide +kernel) (by decide +kernel)
set_option maxRecDepth 20000 in
theorem gX1_nextHop_X1_routeOf : GoodIn wsX1_nextHop (va_wsS RX1 57 yX1_routeOf wsX1_routeOf) := goodIn_app (goodIn_of _ (by decide +kernel)) ggX1_nextHop_X1_routeOf
theorem dX1_nextHop_0 : decode cX1_nextHop 0 = .ok (.iload_n 1, 1) := by decide +kernel
theorem dX1_nextHop_1 : decode cX1_nextHop 1 = .ok (.iload_n 2, 1) := by decide +kernel
theorem dX1_nextHop_2 : decode cX1_nextHop 2 = .ok (.invokestatic 57, 3) := by decide +kernel
theorem dX1_nextHop_5 : decode cX1_nextHop 5 = .ok (.istore_n 3, 1) := by decide +kernel
theorem dX1_nextHop_6 : decode cX1_nextHop 6 = .ok (.iload_n 3, 1) := by decide +kernel
theorem dX1_nextHop_7 : decode cX1_nextHop 7 = .ok (.ifCond .ge 6, 3) := by decide +kernel
theorem dX1_nextHop_10 : decode cX1_nextHop 10 = .ok (.bipush (-2), 2) := by decide +kernel
theorem dX1_nextHop_12 : decode cX1_nextHop 12 = .ok (.ireturn, 1) := by decide +kernel
theorem dX1_nextHop_13 : decode cX1_nextHop 13 = .ok (.aload_n 0, 1) := by decide +kernel
theorem dX1_nextHop_14 : decode cX1_nextHop 14 = .ok (.getfield 15, 3) := by decide +kernel
theorem dX1_nextHop_17 : decode cX1_nextHop 17 = .ok (.iload_n 3, 1) := by decide +kernel
theorem dX1_nextHop_18 : decode cX1_nextHop 18 = .ok (.iaload, 1) := by decide +kernel
theorem dX1_nextHop_19 : decode cX1_nextHop 19 = .ok (.ireturn, 1) := by decide +kernel
set_option maxRecDepth 20000 in
theorem ggX1_isEntryStale_X1_routeOf : GoodIn wsX1_isEntryStale wsX1_routeOf := goodIn_r _ [6] (by decide +kernel) (by decide +kernel)
set_option maxRecDepth 20000 in
theorem gX1_isEntryStale_X1_routeOf : GoodIn wsX1_isEntryStale (va_wsS RX1 57 yX1_routeOf wsX1_routeOf) := goodIn_app (goodIn_of _ (by decide +kernel)) ggX1_isEntryStale_X1_routeOf
theorem dX1_isEntryStale_0 : decode cX1_isEntryStale 0 = .ok (.iload_n 1, 1) := by decide +kernel
theorem dX1_isEntryStale_1 : decode cX1_isEntryStale 1 = .ok (.iload_n 2, 1) := by decide +kernel
theorem dX1_isEntryStale_2 : decode cX1_isEntryStale 2 = .ok (.invokestatic 57, 3) := by decide +kernel
theorem dX1_isEntryStale_5 : decode cX1_isEntryStale 5 = .ok (.istore_n 3, 1) := by decide +kernel
theorem dX1_isEntryStale_6 : decode cX1_isEntryStale 6 = .ok (.iload_n 3, 1) := by decide +kernel
theorem dX1_isEntryStale_7 : decode cX1_isEntryStale 7 = .ok (.ifCond .ge 6, 3) := by decide +kernel
theorem dX1_isEntryStale_10 : decode cX1_isEntryStale 10 = .ok (.bipush (-2), 2) := by decide +kernel
theorem dX1_isEntryStale_12 : decode cX1_isEntryStale 12 = .ok (.ireturn, 1) := by decide +kernel
theorem dX1_isEntryStale_13 : decode cX1_isEntryStale 13 = .ok (.aload_n 0, 1) := by decide +kernel
theorem dX1_isEntryStale_14 : decode cX1_isEntryStale 14 = .ok (.getfield 15, 3) := by decide +kernel
theorem dX1_isEntryStale_17 : decode cX1_isEntryStale 17 = .ok (.iload_n 3, 1) := by decide +kernel
theorem dX1_isEntryStale_18 : decode cX1_isEntryStale 18 = .ok (.iaload, 1) := by decide +kernel
theorem dX1_isEntryStale_19 : decode cX1_isEntryStale 19 = .ok (.bipush (-6), 2) := by decide +kernel
theorem dX1_isEntryStale_21 : decode cX1_isEntryStale 21 = .ok (.if_icmp .ne 6, 3) := by decide +kernel
theorem dX1_isEntryStale_24 : decode cX1_isEntryStale 24 = .ok (.bipush (-6), 2) := by decide +kernel
theorem dX1_isEntryStale_26 : decode cX1_isEntryStale 26 = .ok (.ireturn, 1) := by decide +kernel
theorem dX1_isEntryStale_27 : decode cX1_isEntryStale 27 = .ok (.aload_n 0, 1) := by decide +kernel
theorem dX1_isEntryStale_28 : decode cX1_isEntryStale 28 = .ok (.getfield 19, 3) := by decide +kernel
theorem dX1_isEntryStale_31 : decode cX1_isEntryStale 31 = .ok (.iload_n 3, 1) := by decide +kernel
theorem dX1_isEntryStale_32 : decode cX1_isEntryStale 32 = .ok (.baload, 1) := by decide +kernel
theorem dX1_isEntryStale_33 : decode cX1_isEntryStale 33 = .ok (.ifCond .eq 7, 3) := by decide +kernel
theorem dX1_isEntryStale_36 : decode cX1_isEntryStale 36 = .ok (.iconst 1, 1) := by decide +kernel
theorem dX1_isEntryStale_37 : decode cX1_isEntryStale 37 = .ok (.goto 4, 3) := by decide +kernel
theorem dX1_isEntryStale_40 : decode cX1_isEntryStale 40 = .ok (.iconst 0, 1) := by decide +kernel
theorem dX1_isEntryStale_41 : decode cX1_isEntryStale 41 = .ok (.ireturn, 1) := by decide +kernel
set_option maxRecDepth 20000 in
theorem ggX1_sessionState_X1_findPeer : GoodIn wsX1_sessionState wsX1_findPeer := goodIn_r _ [5, 6, 15, 16, 17, 18, 19, 20, 21, 22, 23] (by decide +kernel) (by decide +kernel)
set_option maxRecDepth 20000 in
theorem gX1_sessionState_X1_findPeer : GoodIn wsX1_sessionState (wsV RX1 53 RX1 yX1_findPeer wsX1_findPeer) := goodIn_app (goodIn_of _ (by decide +kernel)) ggX1_sessionState_X1_findPeer
theorem dX1_sessionState_0 : decode cX1_sessionState 0 = .ok (.aload_n 0, 1) := by decide +kernel
theorem dX1_sessionState_1 : decode cX1_sessionState 1 = .ok (.iload_n 1, 1) := by decide +kernel
theorem dX1_sessionState_2 : decode cX1_sessionState 2 = .ok (.invokevirtual 53, 3) := by decide +kernel
theorem dX1_sessionState_5 : decode cX1_sessionState 5 = .ok (.astore_n 2, 1) := by decide +kernel
theorem dX1_sessionState_6 : decode cX1_sessionState 6 = .ok (.aload_n 2, 1) := by decide +kernel
theorem dX1_sessionState_7 : decode cX1_sessionState 7 = .ok (.ifnonnull 7, 3) := by decide +kernel
theorem dX1_sessionState_10 : decode cX1_sessionState 10 = .ok (.iconst (-1), 1) := by decide +kernel
theorem dX1_sessionState_11 : decode cX1_sessionState 11 = .ok (.goto 7, 3) := by decide +kernel
theorem dX1_sessionState_14 : decode cX1_sessionState 14 = .ok (.aload_n 2, 1) := by decide +kernel
theorem dX1_sessionState_15 : decode cX1_sessionState 15 = .ok (.getfield 71, 3) := by decide +kernel
theorem dX1_sessionState_18 : decode cX1_sessionState 18 = .ok (.ireturn, 1) := by decide +kernel
set_option maxRecDepth 20000 in
theorem ggX1_restartTimer_X1_findPeer : GoodIn wsX1_restartTimer wsX1_findPeer := goodIn_r _ [5, 6, 15, 16, 17, 18, 19, 20, 21, 22, 23] (by decide +kernel) (by decide +kernel)
set_option maxRecDepth 20000 in
theorem gX1_restartTimer_X1_findPeer : GoodIn wsX1_restartTimer (wsV RX1 53 RX1 yX1_findPeer wsX1_findPeer) := goodIn_app (goodIn_of _ (by decide +kernel)) ggX1_restartTimer_X1_findPeer
theorem dX1_restartTimer_0 : decode cX1_restartTimer 0 = .ok (.aload_n 0, 1) := by decide +kernel
theorem dX1_restartTimer_1 : decode cX1_restartTimer 1 = .ok (.iload_n 1, 1) := by decide +kernel
theorem dX1_restartTimer_2 : decode cX1_restartTimer 2 = .ok (.invokevirtual 53, 3) := by decide +kernel
theorem dX1_restartTimer_5 : decode cX1_restartTimer 5 = .ok (.astore_n 2, 1) := by decide +kernel
theorem dX1_restartTimer_6 : decode cX1_restartTimer 6 = .ok (.aload_n 2, 1) := by decide +kernel
theorem dX1_restartTimer_7 : decode cX1_restartTimer 7 = .ok (.ifnonnull 7, 3) := by decide +kernel
theorem dX1_restartTimer_10 : decode cX1_restartTimer 10 = .ok (.iconst (-1), 1) := by decide +kernel
theorem dX1_restartTimer_11 : decode cX1_restartTimer 11 = .ok (.goto 7, 3) := by decide +kernel
theorem dX1_restartTimer_14 : decode cX1_restartTimer 14 = .ok (.aload_n 2, 1) := by decide +kernel
theorem dX1_restartTimer_15 : decode cX1_restartTimer 15 = .ok (.getfield 107, 3) := by decide +kernel
theorem dX1_restartTimer_18 : decode cX1_restartTimer 18 = .ok (.ireturn, 1) := by decide +kernel
set_option maxRecDepth 20000 in
theorem ggX1_staleTimer_X1_findPeer : GoodIn wsX1_staleTimer wsX1_findPeer := goodIn_r _ [5, 6, 15, 16, 17, 18, 19, 20, 21, 22, 23] (by decide +kernel) (by decide +kernel)
set_option maxRecDepth 20000 in
theorem gX1_staleTimer_X1_findPeer : GoodIn wsX1_staleTimer (wsV RX1 53 RX1 yX1_findPeer wsX1_findPeer) := goodIn_app (goodIn_of _ (by decide +kernel)) ggX1_staleTimer_X1_findPeer
theorem dX1_staleTimer_0 : decode cX1_staleTimer 0 = .ok (.aload_n 0, 1) := by decide +kernel
theorem dX1_staleTimer_1 : decode cX1_staleTimer 1 = .ok (.iload_n 1, 1) := by decide +kernel
theorem dX1_staleTimer_2 : decode cX1_staleTimer 2 = .ok (.invokevirtual 53, 3) := by decide +kernel
theorem dX1_staleTimer_5 : decode cX1_staleTimer 5 = .ok (.astore_n 2, 1) := by decide +kernel
theorem dX1_staleTimer_6 : decode cX1_staleTimer 6 = .ok (.aload_n 2, 1) := by decide +kernel
theorem dX1_staleTimer_7 : decode cX1_staleTimer 7 = .ok (.ifnonnull 7, 3) := by decide +kernel
theorem dX1_staleTimer_10 : decode cX1_staleTimer 10 = .ok (.iconst (-1), 1) := by decide +kernel
theorem dX1_staleTimer_11 : decode cX1_staleTimer 11 = .ok (.goto 7, 3) := by decide +kernel
theorem dX1_staleTimer_14 : decode cX1_staleTimer 14 = .ok (.aload_n 2, 1) := by decide +kernel
theorem dX1_staleTimer_15 : decode cX1_staleTimer 15 = .ok (.getfield 110, 3) := by decide +kernel
theorem dX1_staleTimer_18 : decode cX1_staleTimer 18 = .ok (.ireturn, 1) := by decide +kernel
set_option maxRecDepth 20000 in
theorem ggX1_learnedLength_X1_findPeer : GoodIn wsX1_learnedLength wsX1_findPeer := goodIn_r _ [5, 6, 18, 19, 20, 21, 22, 23, 24, 25, 26] (by decide +kernel) (by decide +kernel)
set_option maxRecDepth 20000 in
theorem gX1_learnedLength_X1_findPeer : GoodIn wsX1_learnedLength (wsV RX1 53 RX1 yX1_findPeer wsX1_findPeer) := goodIn_app (goodIn_of _ (by decide +kernel)) ggX1_learnedLength_X1_findPeer
set_option maxRecDepth 20000 in
theorem ggX1_learnedLength_X1_routeOf : GoodIn wsX1_learnedLength wsX1_routeOf := goodIn_r _ [9] (by decide +kernel) (by decide +kernel)
set_option maxRecDepth 20000 in
theorem gX1_learnedLength_X1_routeOf : GoodIn wsX1_learnedLength (va_wsS RX1 57 yX1_routeOf wsX1_routeOf) := goodIn_app (goodIn_of _ (by decide +kernel)) ggX1_learnedLength_X1_routeOf
theorem dX1_learnedLength_0 : decode cX1_learnedLength 0 = .ok (.aload_n 0, 1) := by decide +kernel
theorem dX1_learnedLength_1 : decode cX1_learnedLength 1 = .ok (.iload_n 1, 1) := by decide +kernel
theorem dX1_learnedLength_2 : decode cX1_learnedLength 2 = .ok (.invokevirtual 53, 3) := by decide +kernel
theorem dX1_learnedLength_5 : decode cX1_learnedLength 5 = .ok (.astore 4, 2) := by decide +kernel
theorem dX1_learnedLength_7 : decode cX1_learnedLength 7 = .ok (.aload 4, 2) := by decide +kernel
theorem dX1_learnedLength_9 : decode cX1_learnedLength 9 = .ok (.ifnonnull 5, 3) := by decide +kernel
theorem dX1_learnedLength_12 : decode cX1_learnedLength 12 = .ok (.iconst (-1), 1) := by decide +kernel
theorem dX1_learnedLength_13 : decode cX1_learnedLength 13 = .ok (.ireturn, 1) := by decide +kernel
theorem dX1_learnedLength_14 : decode cX1_learnedLength 14 = .ok (.iload_n 2, 1) := by decide +kernel
theorem dX1_learnedLength_15 : decode cX1_learnedLength 15 = .ok (.iload_n 3, 1) := by decide +kernel
theorem dX1_learnedLength_16 : decode cX1_learnedLength 16 = .ok (.invokestatic 57, 3) := by decide +kernel
theorem dX1_learnedLength_19 : decode cX1_learnedLength 19 = .ok (.istore 5, 2) := by decide +kernel
theorem dX1_learnedLength_21 : decode cX1_learnedLength 21 = .ok (.iload 5, 2) := by decide +kernel
theorem dX1_learnedLength_23 : decode cX1_learnedLength 23 = .ok (.ifCond .ge 6, 3) := by decide +kernel
theorem dX1_learnedLength_26 : decode cX1_learnedLength 26 = .ok (.bipush (-2), 2) := by decide +kernel
theorem dX1_learnedLength_28 : decode cX1_learnedLength 28 = .ok (.ireturn, 1) := by decide +kernel
theorem dX1_learnedLength_29 : decode cX1_learnedLength 29 = .ok (.aload 4, 2) := by decide +kernel
theorem dX1_learnedLength_31 : decode cX1_learnedLength 31 = .ok (.getfield 113, 3) := by decide +kernel
theorem dX1_learnedLength_34 : decode cX1_learnedLength 34 = .ok (.iload 5, 2) := by decide +kernel
theorem dX1_learnedLength_36 : decode cX1_learnedLength 36 = .ok (.iaload, 1) := by decide +kernel
theorem dX1_learnedLength_37 : decode cX1_learnedLength 37 = .ok (.istore 6, 2) := by decide +kernel
theorem dX1_learnedLength_39 : decode cX1_learnedLength 39 = .ok (.iload 6, 2) := by decide +kernel
theorem dX1_learnedLength_41 : decode cX1_learnedLength 41 = .ok (.ifCond .ne 8, 3) := by decide +kernel
theorem dX1_learnedLength_44 : decode cX1_learnedLength 44 = .ok (.bipush (-6), 2) := by decide +kernel
theorem dX1_learnedLength_46 : decode cX1_learnedLength 46 = .ok (.goto 5, 3) := by decide +kernel
theorem dX1_learnedLength_49 : decode cX1_learnedLength 49 = .ok (.iload 6, 2) := by decide +kernel
theorem dX1_learnedLength_51 : decode cX1_learnedLength 51 = .ok (.ireturn, 1) := by decide +kernel
set_option maxRecDepth 20000 in
theorem ggX1_isLearnedStale_X1_findPeer : GoodIn wsX1_isLearnedStale wsX1_findPeer := goodIn_r _ [5, 6, 18, 19, 20, 21, 22, 23, 24, 25, 26] (by decide +kernel) (by decide +kernel)
set_option maxRecDepth 20000 in
theorem gX1_isLearnedStale_X1_findPeer : GoodIn wsX1_isLearnedStale (wsV RX1 53 RX1 yX1_findPeer wsX1_findPeer) := goodIn_app (goodIn_of _ (by decide +kernel)) ggX1_isLearnedStale_X1_findPeer
set_option maxRecDepth 20000 in
theorem ggX1_isLearnedStale_X1_routeOf : GoodIn wsX1_isLearnedStale wsX1_routeOf := goodIn_r _ [9] (by decide +kernel) (by decide +kernel)
set_option maxRecDepth 20000 in
theorem gX1_isLearnedStale_X1_routeOf : GoodIn wsX1_isLearnedStale (va_wsS RX1 57 yX1_routeOf wsX1_routeOf) := goodIn_app (goodIn_of _ (by decide +kernel)) ggX1_isLearnedStale_X1_routeOf
theorem dX1_isLearnedStale_0 : decode cX1_isLearnedStale 0 = .ok (.aload_n 0, 1) := by decide +kernel
theorem dX1_isLearnedStale_1 : decode cX1_isLearnedStale 1 = .ok (.iload_n 1, 1) := by decide +kernel
theorem dX1_isLearnedStale_2 : decode cX1_isLearnedStale 2 = .ok (.invokevirtual 53, 3) := by decide +kernel
theorem dX1_isLearnedStale_5 : decode cX1_isLearnedStale 5 = .ok (.astore 4, 2) := by decide +kernel
theorem dX1_isLearnedStale_7 : decode cX1_isLearnedStale 7 = .ok (.aload 4, 2) := by decide +kernel
theorem dX1_isLearnedStale_9 : decode cX1_isLearnedStale 9 = .ok (.ifnonnull 5, 3) := by decide +kernel
theorem dX1_isLearnedStale_12 : decode cX1_isLearnedStale 12 = .ok (.iconst (-1), 1) := by decide +kernel
theorem dX1_isLearnedStale_13 : decode cX1_isLearnedStale 13 = .ok (.ireturn, 1) := by decide +kernel
theorem dX1_isLearnedStale_14 : decode cX1_isLearnedStale 14 = .ok (.iload_n 2, 1) := by decide +kernel
theorem dX1_isLearnedStale_15 : decode cX1_isLearnedStale 15 = .ok (.iload_n 3, 1) := by decide +kernel
theorem dX1_isLearnedStale_16 : decode cX1_isLearnedStale 16 = .ok (.invokestatic 57, 3) := by decide +kernel
theorem dX1_isLearnedStale_19 : decode cX1_isLearnedStale 19 = .ok (.istore 5, 2) := by decide +kernel
theorem dX1_isLearnedStale_21 : decode cX1_isLearnedStale 21 = .ok (.iload 5, 2) := by decide +kernel
theorem dX1_isLearnedStale_23 : decode cX1_isLearnedStale 23 = .ok (.ifCond .ge 6, 3) := by decide +kernel
theorem dX1_isLearnedStale_26 : decode cX1_isLearnedStale 26 = .ok (.bipush (-2), 2) := by decide +kernel
theorem dX1_isLearnedStale_28 : decode cX1_isLearnedStale 28 = .ok (.ireturn, 1) := by decide +kernel
theorem dX1_isLearnedStale_29 : decode cX1_isLearnedStale 29 = .ok (.aload 4, 2) := by decide +kernel
theorem dX1_isLearnedStale_31 : decode cX1_isLearnedStale 31 = .ok (.getfield 113, 3) := by decide +kernel
theorem dX1_isLearnedStale_34 : decode cX1_isLearnedStale 34 = .ok (.iload 5, 2) := by decide +kernel
theorem dX1_isLearnedStale_36 : decode cX1_isLearnedStale 36 = .ok (.iaload, 1) := by decide +kernel
theorem dX1_isLearnedStale_37 : decode cX1_isLearnedStale 37 = .ok (.ifCond .ne 6, 3) := by decide +kernel
theorem dX1_isLearnedStale_40 : decode cX1_isLearnedStale 40 = .ok (.bipush (-6), 2) := by decide +kernel
theorem dX1_isLearnedStale_42 : decode cX1_isLearnedStale 42 = .ok (.ireturn, 1) := by decide +kernel
theorem dX1_isLearnedStale_43 : decode cX1_isLearnedStale 43 = .ok (.aload 4, 2) := by decide +kernel
theorem dX1_isLearnedStale_45 : decode cX1_isLearnedStale 45 = .ok (.getfield 116, 3) := by decide +kernel
theorem dX1_isLearnedStale_48 : decode cX1_isLearnedStale 48 = .ok (.iload 5, 2) := by decide +kernel
theorem dX1_isLearnedStale_50 : decode cX1_isLearnedStale 50 = .ok (.baload, 1) := by decide +kernel
theorem dX1_isLearnedStale_51 : decode cX1_isLearnedStale 51 = .ok (.ifCond .eq 7, 3) := by decide +kernel
theorem dX1_isLearnedStale_54 : decode cX1_isLearnedStale 54 = .ok (.iconst 1, 1) := by decide +kernel
theorem dX1_isLearnedStale_55 : decode cX1_isLearnedStale 55 = .ok (.goto 4, 3) := by decide +kernel
theorem dX1_isLearnedStale_58 : decode cX1_isLearnedStale 58 = .ok (.iconst 0, 1) := by decide +kernel
theorem dX1_isLearnedStale_59 : decode cX1_isLearnedStale 59 = .ok (.ireturn, 1) := by decide +kernel
set_option maxRecDepth 20000 in
theorem ggX1_forward_X1_findPeer : GoodIn wsX1_forward wsX1_findPeer := goodIn_r _ [5, 6, 15, 16, 17, 18, 19, 20, 21, 22, 23] (by decide +kernel) (by decide +kernel)
set_option maxRecDepth 20000 in
theorem gX1_forward_X1_findPeer : GoodIn wsX1_forward (wsV RX1 53 RX1 yX1_findPeer wsX1_findPeer) := goodIn_app (goodIn_of _ (by decide +kernel)) ggX1_forward_X1_findPeer
set_option maxRecDepth 20000 in
theorem ggX1_forward_X1_routeOf : GoodIn wsX1_forward wsX1_routeOf := goodIn_r _ [9] (by decide +kernel) (by decide +kernel)
set_option maxRecDepth 20000 in
theorem gX1_forward_X1_routeOf : GoodIn wsX1_forward (va_wsS RX1 57 yX1_routeOf wsX1_routeOf) := goodIn_app (goodIn_of _ (by decide +kernel)) ggX1_forward_X1_routeOf
set_option maxRecDepth 20000 in
theorem ggX1_forward_X1_followPacket : GoodIn wsX1_forward wsX1_followPacket := goodIn_r _ [13, 14, 24, 25, 26, 27, 28, 29, 30, 31, 15, 16, 17, 18, 19, 20, 21, 22, 23] (by decide +kernel) (by decide +kernel)
set_option maxRecDepth 20000 in
theorem gX1_forward_X1_followPacket : GoodIn wsX1_forward (wsV RX1 119 RX1 yX1_followPacket wsX1_followPacket) := goodIn_app (goodIn_of _ (by decide +kernel)) ggX1_forward_X1_followPacket
theorem dX1_forward_0 : decode cX1_forward 0 = .ok (.aload_n 0, 1) := by decide +kernel
theorem dX1_forward_1 : decode cX1_forward 1 = .ok (.iload_n 1, 1) := by decide +kernel
theorem dX1_forward_2 : decode cX1_forward 2 = .ok (.invokevirtual 53, 3) := by decide +kernel
theorem dX1_forward_5 : decode cX1_forward 5 = .ok (.astore 4, 2) := by decide +kernel
theorem dX1_forward_7 : decode cX1_forward 7 = .ok (.aload 4, 2) := by decide +kernel
theorem dX1_forward_9 : decode cX1_forward 9 = .ok (.ifnonnull 5, 3) := by decide +kernel
theorem dX1_forward_12 : decode cX1_forward 12 = .ok (.iconst (-1), 1) := by decide +kernel
theorem dX1_forward_13 : decode cX1_forward 13 = .ok (.ireturn, 1) := by decide +kernel
theorem dX1_forward_14 : decode cX1_forward 14 = .ok (.iload_n 2, 1) := by decide +kernel
theorem dX1_forward_15 : decode cX1_forward 15 = .ok (.iload_n 3, 1) := by decide +kernel
theorem dX1_forward_16 : decode cX1_forward 16 = .ok (.invokestatic 57, 3) := by decide +kernel
theorem dX1_forward_19 : decode cX1_forward 19 = .ok (.istore 5, 2) := by decide +kernel
theorem dX1_forward_21 : decode cX1_forward 21 = .ok (.iload 5, 2) := by decide +kernel
theorem dX1_forward_23 : decode cX1_forward 23 = .ok (.ifCond .ge 6, 3) := by decide +kernel
theorem dX1_forward_26 : decode cX1_forward 26 = .ok (.bipush (-2), 2) := by decide +kernel
theorem dX1_forward_28 : decode cX1_forward 28 = .ok (.ireturn, 1) := by decide +kernel
theorem dX1_forward_29 : decode cX1_forward 29 = .ok (.aload_n 0, 1) := by decide +kernel
theorem dX1_forward_30 : decode cX1_forward 30 = .ok (.aload 4, 2) := by decide +kernel
theorem dX1_forward_32 : decode cX1_forward 32 = .ok (.iload_n 1, 1) := by decide +kernel
theorem dX1_forward_33 : decode cX1_forward 33 = .ok (.iload 5, 2) := by decide +kernel
theorem dX1_forward_35 : decode cX1_forward 35 = .ok (.invokevirtual 119, 3) := by decide +kernel
theorem dX1_forward_38 : decode cX1_forward 38 = .ok (.ireturn, 1) := by decide +kernel
set_option maxRecDepth 20000 in
theorem ggX1_reachableCount_X1_findPeer : GoodIn wsX1_reachableCount wsX1_findPeer := goodIn_r _ [5, 6, 12, 13, 14, 15, 16, 17, 18, 19, 20] (by decide +kernel) (by decide +kernel)
set_option maxRecDepth 20000 in
theorem gX1_reachableCount_X1_findPeer : GoodIn wsX1_reachableCount (wsV RX1 53 RX1 yX1_findPeer wsX1_findPeer) := goodIn_app (goodIn_of _ (by decide +kernel)) ggX1_reachableCount_X1_findPeer
set_option maxRecDepth 20000 in
theorem ggX1_reachableCount_X1_followPacket : GoodIn wsX1_reachableCount wsX1_followPacket := goodIn_r _ [10, 11, 21, 22, 23, 24, 25, 26, 27, 28, 12, 13, 14, 15, 16, 17, 18, 19, 20] (by decide +kernel) (by decide +kernel)
set_option maxRecDepth 20000 in
theorem gX1_reachableCount_X1_followPacket : GoodIn wsX1_reachableCount (wsV RX1 119 RX1 yX1_followPacket wsX1_followPacket) := goodIn_app (goodIn_of _ (by decide +kernel)) ggX1_reachableCount_X1_followPacket
theorem dX1_reachableCount_0 : decode cX1_reachableCount 0 = .ok (.aload_n 0, 1) := by decide +kernel
theorem dX1_reachableCount_1 : decode cX1_reachableCount 1 = .ok (.iload_n 1, 1) := by decide +kernel
theorem dX1_reachableCount_2 : decode cX1_reachableCount 2 = .ok (.invokevirtual 53, 3) := by decide +kernel
theorem dX1_reachableCount_5 : decode cX1_reachableCount 5 = .ok (.astore_n 2, 1) := by decide +kernel
theorem dX1_reachableCount_6 : decode cX1_reachableCount 6 = .ok (.aload_n 2, 1) := by decide +kernel
theorem dX1_reachableCount_7 : decode cX1_reachableCount 7 = .ok (.ifnonnull 5, 3) := by decide +kernel
theorem dX1_reachableCount_10 : decode cX1_reachableCount 10 = .ok (.iconst (-1), 1) := by decide +kernel
theorem dX1_reachableCount_11 : decode cX1_reachableCount 11 = .ok (.ireturn, 1) := by decide +kernel
theorem dX1_reachableCount_12 : decode cX1_reachableCount 12 = .ok (.iconst 0, 1) := by decide +kernel
theorem dX1_reachableCount_13 : decode cX1_reachableCount 13 = .ok (.istore_n 3, 1) := by decide +kernel
theorem dX1_reachableCount_14 : decode cX1_reachableCount 14 = .ok (.iconst 0, 1) := by decide +kernel
theorem dX1_reachableCount_15 : decode cX1_reachableCount 15 = .ok (.istore 4, 2) := by decide +kernel
theorem dX1_reachableCount_17 : decode cX1_reachableCount 17 = .ok (.iload 4, 2) := by decide +kernel
theorem dX1_reachableCount_19 : decode cX1_reachableCount 19 = .ok (.bipush 16, 2) := by decide +kernel
theorem dX1_reachableCount_21 : decode cX1_reachableCount 21 = .ok (.if_icmp .ge 23, 3) := by decide +kernel
theorem dX1_reachableCount_24 : decode cX1_reachableCount 24 = .ok (.aload_n 0, 1) := by decide +kernel
theorem dX1_reachableCount_25 : decode cX1_reachableCount 25 = .ok (.aload_n 2, 1) := by decide +kernel
theorem dX1_reachableCount_26 : decode cX1_reachableCount 26 = .ok (.iload_n 1, 1) := by decide +kernel
theorem dX1_reachableCount_27 : decode cX1_reachableCount 27 = .ok (.iload 4, 2) := by decide +kernel
theorem dX1_reachableCount_29 : decode cX1_reachableCount 29 = .ok (.invokevirtual 119, 3) := by decide +kernel
theorem dX1_reachableCount_32 : decode cX1_reachableCount 32 = .ok (.ifCond .lt 6, 3) := by decide +kernel
theorem dX1_reachableCount_35 : decode cX1_reachableCount 35 = .ok (.iinc 3 1, 3) := by decide +kernel
theorem dX1_reachableCount_38 : decode cX1_reachableCount 38 = .ok (.iinc 4 1, 3) := by decide +kernel
theorem dX1_reachableCount_41 : decode cX1_reachableCount 41 = .ok (.goto (-24), 3) := by decide +kernel
theorem dX1_reachableCount_44 : decode cX1_reachableCount 44 = .ok (.iload_n 3, 1) := by decide +kernel
theorem dX1_reachableCount_45 : decode cX1_reachableCount 45 = .ok (.ireturn, 1) := by decide +kernel
set_option maxRecDepth 20000 in
theorem ggX1_loopCount_X1_countLoops : GoodIn wsX1_loopCount wsX1_countLoops := goodIn_r _ [6, 7, 8, 9, 5, 10, 11, 21, 22, 23, 24, 25, 26, 27, 28, 12, 13, 14, 15, 16, 17, 18, 19, 20] (by decide +kernel) (by decide +kernel)
set_option maxRecDepth 20000 in
theorem gX1_loopCount_X1_countLoops : GoodIn wsX1_loopCount (wsV RX1 123 RX1 yX1_countLoops wsX1_countLoops) := goodIn_app (goodIn_of _ (by decide +kernel)) ggX1_loopCount_X1_countLoops
theorem dX1_loopCount_0 : decode cX1_loopCount 0 = .ok (.iconst 0, 1) := by decide +kernel
theorem dX1_loopCount_1 : decode cX1_loopCount 1 = .ok (.istore_n 1, 1) := by decide +kernel
theorem dX1_loopCount_2 : decode cX1_loopCount 2 = .ok (.iconst 0, 1) := by decide +kernel
theorem dX1_loopCount_3 : decode cX1_loopCount 3 = .ok (.istore_n 2, 1) := by decide +kernel
theorem dX1_loopCount_4 : decode cX1_loopCount 4 = .ok (.iload_n 2, 1) := by decide +kernel
theorem dX1_loopCount_5 : decode cX1_loopCount 5 = .ok (.aload_n 0, 1) := by decide +kernel
theorem dX1_loopCount_6 : decode cX1_loopCount 6 = .ok (.getfield 11, 3) := by decide +kernel
theorem dX1_loopCount_9 : decode cX1_loopCount 9 = .ok (.arraylength, 1) := by decide +kernel
theorem dX1_loopCount_10 : decode cX1_loopCount 10 = .ok (.if_icmp .ge 29, 3) := by decide +kernel
theorem dX1_loopCount_13 : decode cX1_loopCount 13 = .ok (.aload_n 0, 1) := by decide +kernel
theorem dX1_loopCount_14 : decode cX1_loopCount 14 = .ok (.getfield 11, 3) := by decide +kernel
theorem dX1_loopCount_17 : decode cX1_loopCount 17 = .ok (.iload_n 2, 1) := by decide +kernel
theorem dX1_loopCount_18 : decode cX1_loopCount 18 = .ok (.aaload, 1) := by decide +kernel
theorem dX1_loopCount_19 : decode cX1_loopCount 19 = .ok (.astore_n 3, 1) := by decide +kernel
theorem dX1_loopCount_20 : decode cX1_loopCount 20 = .ok (.aload_n 3, 1) := by decide +kernel
theorem dX1_loopCount_21 : decode cX1_loopCount 21 = .ok (.ifnull 12, 3) := by decide +kernel
theorem dX1_loopCount_24 : decode cX1_loopCount 24 = .ok (.iload_n 1, 1) := by decide +kernel
theorem dX1_loopCount_25 : decode cX1_loopCount 25 = .ok (.aload_n 0, 1) := by decide +kernel
theorem dX1_loopCount_26 : decode cX1_loopCount 26 = .ok (.aload_n 3, 1) := by decide +kernel
theorem dX1_loopCount_27 : decode cX1_loopCount 27 = .ok (.iload_n 2, 1) := by decide +kernel
theorem dX1_loopCount_28 : decode cX1_loopCount 28 = .ok (.invokevirtual 123, 3) := by decide +kernel
theorem dX1_loopCount_31 : decode cX1_loopCount 31 = .ok (.iadd, 1) := by decide +kernel
theorem dX1_loopCount_32 : decode cX1_loopCount 32 = .ok (.istore_n 1, 1) := by decide +kernel
theorem dX1_loopCount_33 : decode cX1_loopCount 33 = .ok (.iinc 2 1, 3) := by decide +kernel
theorem dX1_loopCount_36 : decode cX1_loopCount 36 = .ok (.goto (-32), 3) := by decide +kernel
theorem dX1_loopCount_39 : decode cX1_loopCount 39 = .ok (.iload_n 1, 1) := by decide +kernel
theorem dX1_loopCount_40 : decode cX1_loopCount 40 = .ok (.ireturn, 1) := by decide +kernel
theorem dX1_isTime_0 : decode cX1_isTime 0 = .ok (.iload_n 0, 1) := by decide +kernel
theorem dX1_isTime_1 : decode cX1_isTime 1 = .ok (.iconst 1, 1) := by decide +kernel
theorem dX1_isTime_2 : decode cX1_isTime 2 = .ok (.if_icmp .lt 13, 3) := by decide +kernel
theorem dX1_isTime_5 : decode cX1_isTime 5 = .ok (.iload_n 0, 1) := by decide +kernel
theorem dX1_isTime_6 : decode cX1_isTime 6 = .ok (.bipush 50, 2) := by decide +kernel
theorem dX1_isTime_8 : decode cX1_isTime 8 = .ok (.if_icmp .gt 7, 3) := by decide +kernel
theorem dX1_isTime_11 : decode cX1_isTime 11 = .ok (.iconst 1, 1) := by decide +kernel
theorem dX1_isTime_12 : decode cX1_isTime 12 = .ok (.goto 4, 3) := by decide +kernel
theorem dX1_isTime_15 : decode cX1_isTime 15 = .ok (.iconst 0, 1) := by decide +kernel
theorem dX1_isTime_16 : decode cX1_isTime 16 = .ok (.ireturn, 1) := by decide +kernel
theorem dX1_routeOf_0 : decode cX1_routeOf 0 = .ok (.iload_n 0, 1) := by decide +kernel
theorem dX1_routeOf_1 : decode cX1_routeOf 1 = .ok (.ifCond .lt 18, 3) := by decide +kernel
theorem dX1_routeOf_4 : decode cX1_routeOf 4 = .ok (.iload_n 0, 1) := by decide +kernel
theorem dX1_routeOf_5 : decode cX1_routeOf 5 = .ok (.iconst 2, 1) := by decide +kernel
theorem dX1_routeOf_6 : decode cX1_routeOf 6 = .ok (.if_icmp .ge 13, 3) := by decide +kernel
theorem dX1_routeOf_9 : decode cX1_routeOf 9 = .ok (.iload_n 1, 1) := by decide +kernel
theorem dX1_routeOf_10 : decode cX1_routeOf 10 = .ok (.ifCond .lt 9, 3) := by decide +kernel
theorem dX1_routeOf_13 : decode cX1_routeOf 13 = .ok (.iload_n 1, 1) := by decide +kernel
theorem dX1_routeOf_14 : decode cX1_routeOf 14 = .ok (.bipush 8, 2) := by decide +kernel
theorem dX1_routeOf_16 : decode cX1_routeOf 16 = .ok (.if_icmp .lt 5, 3) := by decide +kernel
theorem dX1_routeOf_19 : decode cX1_routeOf 19 = .ok (.iconst (-1), 1) := by decide +kernel
theorem dX1_routeOf_20 : decode cX1_routeOf 20 = .ok (.ireturn, 1) := by decide +kernel
theorem dX1_routeOf_21 : decode cX1_routeOf 21 = .ok (.iload_n 0, 1) := by decide +kernel
theorem dX1_routeOf_22 : decode cX1_routeOf 22 = .ok (.bipush 8, 2) := by decide +kernel
theorem dX1_routeOf_24 : decode cX1_routeOf 24 = .ok (.imul, 1) := by decide +kernel
theorem dX1_routeOf_25 : decode cX1_routeOf 25 = .ok (.iload_n 1, 1) := by decide +kernel
theorem dX1_routeOf_26 : decode cX1_routeOf 26 = .ok (.iadd, 1) := by decide +kernel
theorem dX1_routeOf_27 : decode cX1_routeOf 27 = .ok (.ireturn, 1) := by decide +kernel
theorem dX1_findPeer_0 : decode cX1_findPeer 0 = .ok (.iload_n 1, 1) := by decide +kernel
theorem dX1_findPeer_1 : decode cX1_findPeer 1 = .ok (.ifCond .lt 12, 3) := by decide +kernel
theorem dX1_findPeer_4 : decode cX1_findPeer 4 = .ok (.iload_n 1, 1) := by decide +kernel
theorem dX1_findPeer_5 : decode cX1_findPeer 5 = .ok (.aload_n 0, 1) := by decide +kernel
theorem dX1_findPeer_6 : decode cX1_findPeer 6 = .ok (.getfield 11, 3) := by decide +kernel
theorem dX1_findPeer_9 : decode cX1_findPeer 9 = .ok (.arraylength, 1) := by decide +kernel
theorem dX1_findPeer_10 : decode cX1_findPeer 10 = .ok (.if_icmp .lt 5, 3) := by decide +kernel
theorem dX1_findPeer_13 : decode cX1_findPeer 13 = .ok (.aconst_null, 1) := by decide +kernel
theorem dX1_findPeer_14 : decode cX1_findPeer 14 = .ok (.areturn, 1) := by decide +kernel
theorem dX1_findPeer_15 : decode cX1_findPeer 15 = .ok (.aload_n 0, 1) := by decide +kernel
theorem dX1_findPeer_16 : decode cX1_findPeer 16 = .ok (.getfield 11, 3) := by decide +kernel
theorem dX1_findPeer_19 : decode cX1_findPeer 19 = .ok (.iload_n 1, 1) := by decide +kernel
theorem dX1_findPeer_20 : decode cX1_findPeer 20 = .ok (.aaload, 1) := by decide +kernel
theorem dX1_findPeer_21 : decode cX1_findPeer 21 = .ok (.areturn, 1) := by decide +kernel
set_option maxRecDepth 20000 in
theorem ggX1_selectAfterOffer_X1_select : GoodIn wsX1_selectAfterOffer wsX1_select := goodIn_r _ [6, 7, 8, 9, 10, 11, 12, 13, 14, 15, 16, 17, 18, 5, 19, 20, 21, 22, 23, 24, 25, 26, 27, 28, 29, 30, 31, 32, 33, 34, 35, 36, 37, 38, 39, 40, 41, 42, 43, 44] (by decide +kernel) (by decide +kernel)
set_option maxRecDepth 20000 in
theorem gX1_selectAfterOffer_X1_select : GoodIn wsX1_selectAfterOffer (wsV RX1 127 RX1 yX1_select wsX1_select) := goodIn_app (goodIn_of _ (by decide +kernel)) ggX1_selectAfterOffer_X1_select
theorem dX1_selectAfterOffer_0 : decode cX1_selectAfterOffer 0 = .ok (.aload_n 0, 1) := by decide +kernel
theorem dX1_selectAfterOffer_1 : decode cX1_selectAfterOffer 1 = .ok (.getfield 36, 3) := by decide +kernel
theorem dX1_selectAfterOffer_4 : decode cX1_selectAfterOffer 4 = .ok (.ifCond .ne 15, 3) := by decide +kernel
theorem dX1_selectAfterOffer_7 : decode cX1_selectAfterOffer 7 = .ok (.aload_n 1, 1) := by decide +kernel
theorem dX1_selectAfterOffer_8 : decode cX1_selectAfterOffer 8 = .ok (.getfield 71, 3) := by decide +kernel
theorem dX1_selectAfterOffer_11 : decode cX1_selectAfterOffer 11 = .ok (.ifCond .ne 8, 3) := by decide +kernel
theorem dX1_selectAfterOffer_14 : decode cX1_selectAfterOffer 14 = .ok (.aload_n 0, 1) := by decide +kernel
theorem dX1_selectAfterOffer_15 : decode cX1_selectAfterOffer 15 = .ok (.iload_n 2, 1) := by decide +kernel
theorem dX1_selectAfterOffer_16 : decode cX1_selectAfterOffer 16 = .ok (.invokevirtual 127, 3) := by decide +kernel
theorem dX1_selectAfterOffer_19 : decode cX1_selectAfterOffer 19 = .ok (.return_, 1) := by decide +kernel
set_option maxRecDepth 20000 in
theorem ggX1_selectAll_X1_select : GoodIn wsX1_selectAll wsX1_select := goodIn_r _ [5, 6, 7, 8, 9, 10, 11, 12, 13, 14, 15, 16, 17, 4, 18, 19, 20, 21, 22, 23, 24, 25, 26, 27, 28, 29, 30, 31, 32, 33, 34, 35, 36, 37, 38, 39, 40, 41, 42, 43] (by decide +kernel) (by decide +kernel)
set_option maxRecDepth 20000 in
theorem gX1_selectAll_X1_select : GoodIn wsX1_selectAll (wsV RX1 127 RX1 yX1_select wsX1_select) := goodIn_app (goodIn_of _ (by decide +kernel)) ggX1_selectAll_X1_select
theorem dX1_selectAll_0 : decode cX1_selectAll 0 = .ok (.iconst 0, 1) := by decide +kernel
theorem dX1_selectAll_1 : decode cX1_selectAll 1 = .ok (.istore_n 1, 1) := by decide +kernel
theorem dX1_selectAll_2 : decode cX1_selectAll 2 = .ok (.iload_n 1, 1) := by decide +kernel
theorem dX1_selectAll_3 : decode cX1_selectAll 3 = .ok (.bipush 16, 2) := by decide +kernel
theorem dX1_selectAll_5 : decode cX1_selectAll 5 = .ok (.if_icmp .ge 14, 3) := by decide +kernel
theorem dX1_selectAll_8 : decode cX1_selectAll 8 = .ok (.aload_n 0, 1) := by decide +kernel
theorem dX1_selectAll_9 : decode cX1_selectAll 9 = .ok (.iload_n 1, 1) := by decide +kernel
theorem dX1_selectAll_10 : decode cX1_selectAll 10 = .ok (.invokevirtual 127, 3) := by decide +kernel
theorem dX1_selectAll_13 : decode cX1_selectAll 13 = .ok (.iinc 1 1, 3) := by decide +kernel
theorem dX1_selectAll_16 : decode cX1_selectAll 16 = .ok (.goto (-14), 3) := by decide +kernel
theorem dX1_selectAll_19 : decode cX1_selectAll 19 = .ok (.return_, 1) := by decide +kernel
set_option maxRecDepth 20000 in
theorem ggX1_select_X0_knownOffer : GoodIn wsX1_select wsX0_knownOffer := goodIn_r _ [7, 8, 9, 32, 33, 34, 35, 36, 37, 38, 39] (by decide +kernel) (by decide +kernel)
set_option maxRecDepth 20000 in
theorem gX1_select_X0_knownOffer_n130 : GoodIn wsX1_select (wsX0_knownOffer) := ggX1_select_X0_knownOffer
set_option maxRecDepth 20000 in
theorem ggX1_select_X1_advertise : GoodIn wsX1_select wsX1_advertise := goodIn_r _ [14, 1, 15, 5, 16, 17, 18, 19, 20, 21, 22, 23, 24, 25, 26, 27, 28, 29, 30, 31, 32, 33, 34, 35, 36, 37, 38, 39] (by decide +kernel) (by decide +kernel)
set_option maxRecDepth 20000 in
theorem gX1_select_X1_advertise : GoodIn wsX1_select (wsV RX1 134 RX1 yX1_advertise wsX1_advertise) := goodIn_app (goodIn_of _ (by decide +kernel)) ggX1_select_X1_advertise
theorem dX1_select_0 : decode cX1_select 0 = .ok (.bipush (-6), 2) := by decide +kernel
theorem dX1_select_2 : decode cX1_select 2 = .ok (.istore_n 2, 1) := by decide +kernel
theorem dX1_select_3 : decode cX1_select 3 = .ok (.iconst 0, 1) := by decide +kernel
theorem dX1_select_4 : decode cX1_select 4 = .ok (.istore_n 3, 1) := by decide +kernel
theorem dX1_select_5 : decode cX1_select 5 = .ok (.iconst 0, 1) := by decide +kernel
theorem dX1_select_6 : decode cX1_select 6 = .ok (.istore 4, 2) := by decide +kernel
theorem dX1_select_8 : decode cX1_select 8 = .ok (.iload 4, 2) := by decide +kernel
theorem dX1_select_10 : decode cX1_select 10 = .ok (.aload_n 0, 1) := by decide +kernel
theorem dX1_select_11 : decode cX1_select 11 = .ok (.getfield 11, 3) := by decide +kernel
theorem dX1_select_14 : decode cX1_select 14 = .ok (.arraylength, 1) := by decide +kernel
theorem dX1_select_15 : decode cX1_select 15 = .ok (.if_icmp .ge 58, 3) := by decide +kernel
theorem dX1_select_18 : decode cX1_select 18 = .ok (.aload_n 0, 1) := by decide +kernel
theorem dX1_select_19 : decode cX1_select 19 = .ok (.getfield 11, 3) := by decide +kernel
theorem dX1_select_22 : decode cX1_select 22 = .ok (.iload 4, 2) := by decide +kernel
theorem dX1_select_24 : decode cX1_select 24 = .ok (.aaload, 1) := by decide +kernel
theorem dX1_select_25 : decode cX1_select 25 = .ok (.astore 5, 2) := by decide +kernel
theorem dX1_select_27 : decode cX1_select 27 = .ok (.aload 5, 2) := by decide +kernel
theorem dX1_select_29 : decode cX1_select 29 = .ok (.ifnonnull 7, 3) := by decide +kernel
theorem dX1_select_32 : decode cX1_select 32 = .ok (.iconst 0, 1) := by decide +kernel
theorem dX1_select_33 : decode cX1_select 33 = .ok (.goto 9, 3) := by decide +kernel
theorem dX1_select_36 : decode cX1_select 36 = .ok (.aload 5, 2) := by decide +kernel
theorem dX1_select_38 : decode cX1_select 38 = .ok (.iload_n 1, 1) := by decide +kernel
theorem dX1_select_39 : decode cX1_select 39 = .ok (.invokevirtual 130, 3) := by decide +kernel
theorem dX1_select_42 : decode cX1_select 42 = .ok (.istore 6, 2) := by decide +kernel
theorem dX1_select_44 : decode cX1_select 44 = .ok (.iload 6, 2) := by decide +kernel
theorem dX1_select_46 : decode cX1_select 46 = .ok (.ifCond .le 21, 3) := by decide +kernel
theorem dX1_select_49 : decode cX1_select 49 = .ok (.iload_n 2, 1) := by decide +kernel
theorem dX1_select_50 : decode cX1_select 50 = .ok (.bipush (-6), 2) := by decide +kernel
theorem dX1_select_52 : decode cX1_select 52 = .ok (.if_icmp .eq 9, 3) := by decide +kernel
theorem dX1_select_55 : decode cX1_select 55 = .ok (.iload 6, 2) := by decide +kernel
theorem dX1_select_57 : decode cX1_select 57 = .ok (.iload_n 3, 1) := by decide +kernel
theorem dX1_select_58 : decode cX1_select 58 = .ok (.if_icmp .ge 9, 3) := by decide +kernel
theorem dX1_select_61 : decode cX1_select 61 = .ok (.iload 4, 2) := by decide +kernel
theorem dX1_select_63 : decode cX1_select 63 = .ok (.istore_n 2, 1) := by decide +kernel
theorem dX1_select_64 : decode cX1_select 64 = .ok (.iload 6, 2) := by decide +kernel
theorem dX1_select_66 : decode cX1_select 66 = .ok (.istore_n 3, 1) := by decide +kernel
theorem dX1_select_67 : decode cX1_select 67 = .ok (.iinc 4 1, 3) := by decide +kernel
theorem dX1_select_70 : decode cX1_select 70 = .ok (.goto (-62), 3) := by decide +kernel
theorem dX1_select_73 : decode cX1_select 73 = .ok (.aload_n 0, 1) := by decide +kernel
theorem dX1_select_74 : decode cX1_select 74 = .ok (.getfield 15, 3) := by decide +kernel
theorem dX1_select_77 : decode cX1_select 77 = .ok (.iload_n 1, 1) := by decide +kernel
theorem dX1_select_78 : decode cX1_select 78 = .ok (.iload_n 2, 1) := by decide +kernel
theorem dX1_select_79 : decode cX1_select 79 = .ok (.iastore, 1) := by decide +kernel
theorem dX1_select_80 : decode cX1_select 80 = .ok (.aload_n 0, 1) := by decide +kernel
theorem dX1_select_81 : decode cX1_select 81 = .ok (.getfield 19, 3) := by decide +kernel
theorem dX1_select_84 : decode cX1_select 84 = .ok (.iload_n 1, 1) := by decide +kernel
theorem dX1_select_85 : decode cX1_select 85 = .ok (.iconst 0, 1) := by decide +kernel
theorem dX1_select_86 : decode cX1_select 86 = .ok (.bastore, 1) := by decide +kernel
theorem dX1_select_87 : decode cX1_select 87 = .ok (.aload_n 0, 1) := by decide +kernel
theorem dX1_select_88 : decode cX1_select 88 = .ok (.iload_n 1, 1) := by decide +kernel
theorem dX1_select_89 : decode cX1_select 89 = .ok (.iload_n 2, 1) := by decide +kernel
theorem dX1_select_90 : decode cX1_select 90 = .ok (.iload_n 3, 1) := by decide +kernel
theorem dX1_select_91 : decode cX1_select 91 = .ok (.iconst 1, 1) := by decide +kernel
theorem dX1_select_92 : decode cX1_select 92 = .ok (.iadd, 1) := by decide +kernel
theorem dX1_select_93 : decode cX1_select 93 = .ok (.invokevirtual 134, 3) := by decide +kernel
theorem dX1_select_96 : decode cX1_select 96 = .ok (.return_, 1) := by decide +kernel
set_option maxRecDepth 20000 in
theorem ggX1_advertise_X0_hearNothing : GoodIn wsX1_advertise wsX0_hearNothing := goodIn_r _ [5, 6, 7, 20, 21, 22, 23, 24, 25, 26, 27] (by decide +kernel) (by decide +kernel)
set_option maxRecDepth 20000 in
theorem gX1_advertise_X0_hearNothing_n138 : GoodIn wsX1_advertise (wsX0_hearNothing) := ggX1_advertise_X0_hearNothing
set_option maxRecDepth 20000 in
theorem ggX1_advertise_X0_learn : GoodIn wsX1_advertise wsX0_learn := goodIn_r _ [10, 7, 6, 20, 21, 22, 23, 24, 25, 26, 27] (by decide +kernel) (by decide +kernel)
set_option maxRecDepth 20000 in
theorem gX1_advertise_X0_learn_n141 : GoodIn wsX1_advertise (wsX0_learn) := ggX1_advertise_X0_learn
theorem dX1_advertise_0 : decode cX1_advertise 0 = .ok (.iconst 0, 1) := by decide +kernel
theorem dX1_advertise_1 : decode cX1_advertise 1 = .ok (.istore 4, 2) := by decide +kernel
theorem dX1_advertise_3 : decode cX1_advertise 3 = .ok (.iload 4, 2) := by decide +kernel
theorem dX1_advertise_5 : decode cX1_advertise 5 = .ok (.aload_n 0, 1) := by decide +kernel
theorem dX1_advertise_6 : decode cX1_advertise 6 = .ok (.getfield 11, 3) := by decide +kernel
theorem dX1_advertise_9 : decode cX1_advertise 9 = .ok (.arraylength, 1) := by decide +kernel
theorem dX1_advertise_10 : decode cX1_advertise 10 = .ok (.if_icmp .ge 59, 3) := by decide +kernel
theorem dX1_advertise_13 : decode cX1_advertise 13 = .ok (.aload_n 0, 1) := by decide +kernel
theorem dX1_advertise_14 : decode cX1_advertise 14 = .ok (.getfield 11, 3) := by decide +kernel
theorem dX1_advertise_17 : decode cX1_advertise 17 = .ok (.iload 4, 2) := by decide +kernel
theorem dX1_advertise_19 : decode cX1_advertise 19 = .ok (.aaload, 1) := by decide +kernel
theorem dX1_advertise_20 : decode cX1_advertise 20 = .ok (.astore 5, 2) := by decide +kernel
theorem dX1_advertise_22 : decode cX1_advertise 22 = .ok (.aload 5, 2) := by decide +kernel
theorem dX1_advertise_24 : decode cX1_advertise 24 = .ok (.ifnull 39, 3) := by decide +kernel
theorem dX1_advertise_27 : decode cX1_advertise 27 = .ok (.aload 5, 2) := by decide +kernel
theorem dX1_advertise_29 : decode cX1_advertise 29 = .ok (.getfield 71, 3) := by decide +kernel
theorem dX1_advertise_32 : decode cX1_advertise 32 = .ok (.ifCond .ne 31, 3) := by decide +kernel
theorem dX1_advertise_35 : decode cX1_advertise 35 = .ok (.iload_n 2, 1) := by decide +kernel
theorem dX1_advertise_36 : decode cX1_advertise 36 = .ok (.bipush (-6), 2) := by decide +kernel
theorem dX1_advertise_38 : decode cX1_advertise 38 = .ok (.if_icmp .eq 9, 3) := by decide +kernel
theorem dX1_advertise_41 : decode cX1_advertise 41 = .ok (.iload_n 2, 1) := by decide +kernel
theorem dX1_advertise_42 : decode cX1_advertise 42 = .ok (.iload 4, 2) := by decide +kernel
theorem dX1_advertise_44 : decode cX1_advertise 44 = .ok (.if_icmp .ne 12, 3) := by decide +kernel
theorem dX1_advertise_47 : decode cX1_advertise 47 = .ok (.aload 5, 2) := by decide +kernel
theorem dX1_advertise_49 : decode cX1_advertise 49 = .ok (.iload_n 1, 1) := by decide +kernel
theorem dX1_advertise_50 : decode cX1_advertise 50 = .ok (.invokevirtual 138, 3) := by decide +kernel
theorem dX1_advertise_53 : decode cX1_advertise 53 = .ok (.goto 10, 3) := by decide +kernel
theorem dX1_advertise_56 : decode cX1_advertise 56 = .ok (.aload 5, 2) := by decide +kernel
theorem dX1_advertise_58 : decode cX1_advertise 58 = .ok (.iload_n 1, 1) := by decide +kernel
theorem dX1_advertise_59 : decode cX1_advertise 59 = .ok (.iload_n 3, 1) := by decide +kernel
theorem dX1_advertise_60 : decode cX1_advertise 60 = .ok (.invokevirtual 141, 3) := by decide +kernel
theorem dX1_advertise_63 : decode cX1_advertise 63 = .ok (.iinc 4 1, 3) := by decide +kernel
theorem dX1_advertise_66 : decode cX1_advertise 66 = .ok (.goto (-63), 3) := by decide +kernel
theorem dX1_advertise_69 : decode cX1_advertise 69 = .ok (.return_, 1) := by decide +kernel
theorem dX1_makeEntriesStale_0 : decode cX1_makeEntriesStale 0 = .ok (.iconst 0, 1) := by decide +kernel
theorem dX1_makeEntriesStale_1 : decode cX1_makeEntriesStale 1 = .ok (.istore_n 1, 1) := by decide +kernel
theorem dX1_makeEntriesStale_2 : decode cX1_makeEntriesStale 2 = .ok (.iload_n 1, 1) := by decide +kernel
theorem dX1_makeEntriesStale_3 : decode cX1_makeEntriesStale 3 = .ok (.bipush 16, 2) := by decide +kernel
theorem dX1_makeEntriesStale_5 : decode cX1_makeEntriesStale 5 = .ok (.if_icmp .ge 16, 3) := by decide +kernel
theorem dX1_makeEntriesStale_8 : decode cX1_makeEntriesStale 8 = .ok (.aload_n 0, 1) := by decide +kernel
theorem dX1_makeEntriesStale_9 : decode cX1_makeEntriesStale 9 = .ok (.getfield 19, 3) := by decide +kernel
theorem dX1_makeEntriesStale_12 : decode cX1_makeEntriesStale 12 = .ok (.iload_n 1, 1) := by decide +kernel
theorem dX1_makeEntriesStale_13 : decode cX1_makeEntriesStale 13 = .ok (.iconst 1, 1) := by decide +kernel
theorem dX1_makeEntriesStale_14 : decode cX1_makeEntriesStale 14 = .ok (.bastore, 1) := by decide +kernel
theorem dX1_makeEntriesStale_15 : decode cX1_makeEntriesStale 15 = .ok (.iinc 1 1, 3) := by decide +kernel
theorem dX1_makeEntriesStale_18 : decode cX1_makeEntriesStale 18 = .ok (.goto (-16), 3) := by decide +kernel
theorem dX1_makeEntriesStale_21 : decode cX1_makeEntriesStale 21 = .ok (.return_, 1) := by decide +kernel
theorem dX1_removeEntries_0 : decode cX1_removeEntries 0 = .ok (.iconst 0, 1) := by decide +kernel
theorem dX1_removeEntries_1 : decode cX1_removeEntries 1 = .ok (.istore_n 1, 1) := by decide +kernel
theorem dX1_removeEntries_2 : decode cX1_removeEntries 2 = .ok (.iload_n 1, 1) := by decide +kernel
theorem dX1_removeEntries_3 : decode cX1_removeEntries 3 = .ok (.bipush 16, 2) := by decide +kernel
theorem dX1_removeEntries_5 : decode cX1_removeEntries 5 = .ok (.if_icmp .ge 17, 3) := by decide +kernel
theorem dX1_removeEntries_8 : decode cX1_removeEntries 8 = .ok (.aload_n 0, 1) := by decide +kernel
theorem dX1_removeEntries_9 : decode cX1_removeEntries 9 = .ok (.getfield 15, 3) := by decide +kernel
theorem dX1_removeEntries_12 : decode cX1_removeEntries 12 = .ok (.iload_n 1, 1) := by decide +kernel
theorem dX1_removeEntries_13 : decode cX1_removeEntries 13 = .ok (.bipush (-6), 2) := by decide +kernel
theorem dX1_removeEntries_15 : decode cX1_removeEntries 15 = .ok (.iastore, 1) := by decide +kernel
theorem dX1_removeEntries_16 : decode cX1_removeEntries 16 = .ok (.iinc 1 1, 3) := by decide +kernel
theorem dX1_removeEntries_19 : decode cX1_removeEntries 19 = .ok (.goto (-17), 3) := by decide +kernel
theorem dX1_removeEntries_22 : decode cX1_removeEntries 22 = .ok (.return_, 1) := by decide +kernel
set_option maxRecDepth 20000 in
theorem ggX1_checkDeferral_X1_waitingPeers : GoodIn wsX1_checkDeferral wsX1_waitingPeers := goodIn_r _ [7, 1, 8, 9, 10, 11, 12, 13, 14, 15, 54, 55, 56, 57, 58, 59, 60, 61, 62, 63, 64, 65, 66, 67, 68, 69, 70] (by decide +kernel) (by decide +kernel)
set_option maxRecDepth 20000 in
theorem gX1_checkDeferral_X1_waitingPeers : GoodIn wsX1_checkDeferral (wsV RX1 145 RX1 yX1_waitingPeers wsX1_waitingPeers) := goodIn_app (goodIn_of _ (by decide +kernel)) ggX1_checkDeferral_X1_waitingPeers
set_option maxRecDepth 20000 in
theorem ggX1_checkDeferral_X1_endDeferral : GoodIn wsX1_checkDeferral wsX1_endDeferral := goodIn_r _ [19, 1, 2, 8, 20, 21, 22, 6, 23, 24, 25, 26, 27, 28, 29, 30, 10, 31, 32, 14, 33, 34, 35, 36, 37, 38, 39, 40, 41, 42, 43, 44, 45, 46, 47, 48, 49, 50, 51, 52, 53, 54, 55, 56, 57, 58, 59, 60, 61, 62, 63, 64, 65, 66, 67, 68, 69, 70] (by decide +kernel) (by decide +kernel)
set_option maxRecDepth 20000 in
theorem gX1_checkDeferral_X1_endDeferral : GoodIn wsX1_checkDeferral (wsV RX1 148 RX1 yX1_endDeferral wsX1_endDeferral) := goodIn_app (goodIn_of _ (by decide +kernel)) ggX1_checkDeferral_X1_endDeferral
theorem dX1_checkDeferral_0 : decode cX1_checkDeferral 0 = .ok (.aload_n 0, 1) := by decide +kernel
theorem dX1_checkDeferral_1 : decode cX1_checkDeferral 1 = .ok (.getfield 36, 3) := by decide +kernel
theorem dX1_checkDeferral_4 : decode cX1_checkDeferral 4 = .ok (.ifCond .eq 21, 3) := by decide +kernel
theorem dX1_checkDeferral_7 : decode cX1_checkDeferral 7 = .ok (.aload_n 0, 1) := by decide +kernel
theorem dX1_checkDeferral_8 : decode cX1_checkDeferral 8 = .ok (.getfield 40, 3) := by decide +kernel
theorem dX1_checkDeferral_11 : decode cX1_checkDeferral 11 = .ok (.ifCond .eq 10, 3) := by decide +kernel
theorem dX1_checkDeferral_14 : decode cX1_checkDeferral 14 = .ok (.aload_n 0, 1) := by decide +kernel
theorem dX1_checkDeferral_15 : decode cX1_checkDeferral 15 = .ok (.invokevirtual 145, 3) := by decide +kernel
theorem dX1_checkDeferral_18 : decode cX1_checkDeferral 18 = .ok (.ifCond .ne 7, 3) := by decide +kernel
theorem dX1_checkDeferral_21 : decode cX1_checkDeferral 21 = .ok (.aload_n 0, 1) := by decide +kernel
theorem dX1_checkDeferral_22 : decode cX1_checkDeferral 22 = .ok (.invokevirtual 148, 3) := by decide +kernel
theorem dX1_checkDeferral_25 : decode cX1_checkDeferral 25 = .ok (.return_, 1) := by decide +kernel
set_option maxRecDepth 20000 in
theorem ggX1_endDeferral_X1_selectAll : GoodIn wsX1_endDeferral wsX1_selectAll := goodIn_r _ [8, 9, 10, 11, 7, 12, 3, 13, 14, 15, 16, 17, 18, 19, 20, 21, 22, 23, 24, 25, 26, 27, 28, 29, 30, 31, 32, 41, 42, 43, 44, 45, 46, 47, 48, 49, 50, 51, 52, 53, 54, 55, 56, 57] (by decide +kernel) (by decide +kernel)
set_option maxRecDepth 20000 in
theorem gX1_endDeferral_X1_selectAll : GoodIn wsX1_endDeferral (wsV RX1 50 RX1 yX1_selectAll wsX1_selectAll) := goodIn_app (goodIn_of _ (by decide +kernel)) ggX1_endDeferral_X1_selectAll
set_option maxRecDepth 20000 in
theorem ggX1_endDeferral_X0_endResync : GoodIn wsX1_endDeferral wsX0_endResync := goodIn_r _ [35, 36, 37, 38, 39, 16, 40, 28, 29, 50, 51, 52, 53, 54, 55, 56, 57] (by decide +kernel) (by decide +kernel)
set_option maxRecDepth 20000 in
theorem gX1_endDeferral_X0_endResync_n90 : GoodIn wsX1_endDeferral (wsX0_endResync) := ggX1_endDeferral_X0_endResync
theorem dX1_endDeferral_0 : decode cX1_endDeferral 0 = .ok (.aload_n 0, 1) := by decide +kernel
theorem dX1_endDeferral_1 : decode cX1_endDeferral 1 = .ok (.iconst 0, 1) := by decide +kernel
theorem dX1_endDeferral_2 : decode cX1_endDeferral 2 = .ok (.putfield 36, 3) := by decide +kernel
theorem dX1_endDeferral_5 : decode cX1_endDeferral 5 = .ok (.aload_n 0, 1) := by decide +kernel
theorem dX1_endDeferral_6 : decode cX1_endDeferral 6 = .ok (.iconst 0, 1) := by decide +kernel
theorem dX1_endDeferral_7 : decode cX1_endDeferral 7 = .ok (.putfield 40, 3) := by decide +kernel
theorem dX1_endDeferral_10 : decode cX1_endDeferral 10 = .ok (.aload_n 0, 1) := by decide +kernel
theorem dX1_endDeferral_11 : decode cX1_endDeferral 11 = .ok (.invokevirtual 50, 3) := by decide +kernel
theorem dX1_endDeferral_14 : decode cX1_endDeferral 14 = .ok (.aload_n 0, 1) := by decide +kernel
theorem dX1_endDeferral_15 : decode cX1_endDeferral 15 = .ok (.getfield 11, 3) := by decide +kernel
theorem dX1_endDeferral_18 : decode cX1_endDeferral 18 = .ok (.astore_n 1, 1) := by decide +kernel
theorem dX1_endDeferral_19 : decode cX1_endDeferral 19 = .ok (.aload_n 1, 1) := by decide +kernel
theorem dX1_endDeferral_20 : decode cX1_endDeferral 20 = .ok (.arraylength, 1) := by decide +kernel
theorem dX1_endDeferral_21 : decode cX1_endDeferral 21 = .ok (.istore_n 2, 1) := by decide +kernel
theorem dX1_endDeferral_22 : decode cX1_endDeferral 22 = .ok (.iconst 0, 1) := by decide +kernel
theorem dX1_endDeferral_23 : decode cX1_endDeferral 23 = .ok (.istore_n 3, 1) := by decide +kernel
theorem dX1_endDeferral_24 : decode cX1_endDeferral 24 = .ok (.iload_n 3, 1) := by decide +kernel
theorem dX1_endDeferral_25 : decode cX1_endDeferral 25 = .ok (.iload_n 2, 1) := by decide +kernel
theorem dX1_endDeferral_26 : decode cX1_endDeferral 26 = .ok (.if_icmp .ge 32, 3) := by decide +kernel
theorem dX1_endDeferral_29 : decode cX1_endDeferral 29 = .ok (.aload_n 1, 1) := by decide +kernel
theorem dX1_endDeferral_30 : decode cX1_endDeferral 30 = .ok (.iload_n 3, 1) := by decide +kernel
theorem dX1_endDeferral_31 : decode cX1_endDeferral 31 = .ok (.aaload, 1) := by decide +kernel
theorem dX1_endDeferral_32 : decode cX1_endDeferral 32 = .ok (.astore 4, 2) := by decide +kernel
theorem dX1_endDeferral_34 : decode cX1_endDeferral 34 = .ok (.aload 4, 2) := by decide +kernel
theorem dX1_endDeferral_36 : decode cX1_endDeferral 36 = .ok (.ifnull 16, 3) := by decide +kernel
theorem dX1_endDeferral_39 : decode cX1_endDeferral 39 = .ok (.aload 4, 2) := by decide +kernel
theorem dX1_endDeferral_41 : decode cX1_endDeferral 41 = .ok (.getfield 71, 3) := by decide +kernel
theorem dX1_endDeferral_44 : decode cX1_endDeferral 44 = .ok (.ifCond .ne 8, 3) := by decide +kernel
theorem dX1_endDeferral_47 : decode cX1_endDeferral 47 = .ok (.aload 4, 2) := by decide +kernel
theorem dX1_endDeferral_49 : decode cX1_endDeferral 49 = .ok (.invokevirtual 90, 3) := by decide +kernel
theorem dX1_endDeferral_52 : decode cX1_endDeferral 52 = .ok (.iinc 3 1, 3) := by decide +kernel
theorem dX1_endDeferral_55 : decode cX1_endDeferral 55 = .ok (.goto (-31), 3) := by decide +kernel
theorem dX1_endDeferral_58 : decode cX1_endDeferral 58 = .ok (.return_, 1) := by decide +kernel
set_option maxRecDepth 20000 in
theorem ggX1_countDownPeers_X0_countDown : GoodIn wsX1_countDownPeers wsX0_countDown := goodIn_r _ [5, 6, 7, 8, 9, 10, 3, 11, 12, 13, 14, 15, 16, 17, 18, 19, 20, 21, 22, 32, 33, 34, 35, 36, 37, 38, 39] (by decide +kernel) (by decide +kernel)
set_option maxRecDepth 20000 in
theorem gX1_countDownPeers_X0_countDown_n151 : GoodIn wsX1_countDownPeers (wsX0_countDown) := ggX1_countDownPeers_X0_countDown
theorem dX1_countDownPeers_0 : decode cX1_countDownPeers 0 = .ok (.iconst 0, 1) := by decide +kernel
theorem dX1_countDownPeers_1 : decode cX1_countDownPeers 1 = .ok (.istore_n 1, 1) := by decide +kernel
theorem dX1_countDownPeers_2 : decode cX1_countDownPeers 2 = .ok (.aload_n 0, 1) := by decide +kernel
theorem dX1_countDownPeers_3 : decode cX1_countDownPeers 3 = .ok (.getfield 11, 3) := by decide +kernel
theorem dX1_countDownPeers_6 : decode cX1_countDownPeers 6 = .ok (.astore_n 2, 1) := by decide +kernel
theorem dX1_countDownPeers_7 : decode cX1_countDownPeers 7 = .ok (.aload_n 2, 1) := by decide +kernel
theorem dX1_countDownPeers_8 : decode cX1_countDownPeers 8 = .ok (.arraylength, 1) := by decide +kernel
theorem dX1_countDownPeers_9 : decode cX1_countDownPeers 9 = .ok (.istore_n 3, 1) := by decide +kernel
theorem dX1_countDownPeers_10 : decode cX1_countDownPeers 10 = .ok (.iconst 0, 1) := by decide +kernel
theorem dX1_countDownPeers_11 : decode cX1_countDownPeers 11 = .ok (.istore 4, 2) := by decide +kernel
theorem dX1_countDownPeers_13 : decode cX1_countDownPeers 13 = .ok (.iload 4, 2) := by decide +kernel
theorem dX1_countDownPeers_15 : decode cX1_countDownPeers 15 = .ok (.iload_n 3, 1) := by decide +kernel
theorem dX1_countDownPeers_16 : decode cX1_countDownPeers 16 = .ok (.if_icmp .ge 28, 3) := by decide +kernel
theorem dX1_countDownPeers_19 : decode cX1_countDownPeers 19 = .ok (.aload_n 2, 1) := by decide +kernel
theorem dX1_countDownPeers_20 : decode cX1_countDownPeers 20 = .ok (.iload 4, 2) := by decide +kernel
theorem dX1_countDownPeers_22 : decode cX1_countDownPeers 22 = .ok (.aaload, 1) := by decide +kernel
theorem dX1_countDownPeers_23 : decode cX1_countDownPeers 23 = .ok (.astore 5, 2) := by decide +kernel
theorem dX1_countDownPeers_25 : decode cX1_countDownPeers 25 = .ok (.aload 5, 2) := by decide +kernel
theorem dX1_countDownPeers_27 : decode cX1_countDownPeers 27 = .ok (.ifnull 11, 3) := by decide +kernel
theorem dX1_countDownPeers_30 : decode cX1_countDownPeers 30 = .ok (.iload_n 1, 1) := by decide +kernel
theorem dX1_countDownPeers_31 : decode cX1_countDownPeers 31 = .ok (.aload 5, 2) := by decide +kernel
theorem dX1_countDownPeers_33 : decode cX1_countDownPeers 33 = .ok (.invokevirtual 151, 3) := by decide +kernel
theorem dX1_countDownPeers_36 : decode cX1_countDownPeers 36 = .ok (.iadd, 1) := by decide +kernel
theorem dX1_countDownPeers_37 : decode cX1_countDownPeers 37 = .ok (.istore_n 1, 1) := by decide +kernel
theorem dX1_countDownPeers_38 : decode cX1_countDownPeers 38 = .ok (.iinc 4 1, 3) := by decide +kernel
theorem dX1_countDownPeers_41 : decode cX1_countDownPeers 41 = .ok (.goto (-28), 3) := by decide +kernel
theorem dX1_countDownPeers_44 : decode cX1_countDownPeers 44 = .ok (.iload_n 1, 1) := by decide +kernel
theorem dX1_countDownPeers_45 : decode cX1_countDownPeers 45 = .ok (.ireturn, 1) := by decide +kernel
theorem dX1_followPacket_0 : decode cX1_followPacket 0 = .ok (.aload_n 1, 1) := by decide +kernel
theorem dX1_followPacket_1 : decode cX1_followPacket 1 = .ok (.getfield 113, 3) := by decide +kernel
theorem dX1_followPacket_4 : decode cX1_followPacket 4 = .ok (.iload_n 3, 1) := by decide +kernel
theorem dX1_followPacket_5 : decode cX1_followPacket 5 = .ok (.iaload, 1) := by decide +kernel
theorem dX1_followPacket_6 : decode cX1_followPacket 6 = .ok (.ifCond .ne 6, 3) := by decide +kernel
theorem dX1_followPacket_9 : decode cX1_followPacket 9 = .ok (.bipush (-6), 2) := by decide +kernel
theorem dX1_followPacket_11 : decode cX1_followPacket 11 = .ok (.ireturn, 1) := by decide +kernel
theorem dX1_followPacket_12 : decode cX1_followPacket 12 = .ok (.aload_n 0, 1) := by decide +kernel
theorem dX1_followPacket_13 : decode cX1_followPacket 13 = .ok (.getfield 15, 3) := by decide +kernel
theorem dX1_followPacket_16 : decode cX1_followPacket 16 = .ok (.iload_n 3, 1) := by decide +kernel
theorem dX1_followPacket_17 : decode cX1_followPacket 17 = .ok (.iaload, 1) := by decide +kernel
theorem dX1_followPacket_18 : decode cX1_followPacket 18 = .ok (.istore 4, 2) := by decide +kernel
theorem dX1_followPacket_20 : decode cX1_followPacket 20 = .ok (.iload 4, 2) := by decide +kernel
theorem dX1_followPacket_22 : decode cX1_followPacket 22 = .ok (.bipush (-6), 2) := by decide +kernel
theorem dX1_followPacket_24 : decode cX1_followPacket 24 = .ok (.if_icmp .ne 6, 3) := by decide +kernel
theorem dX1_followPacket_27 : decode cX1_followPacket 27 = .ok (.bipush (-7), 2) := by decide +kernel
theorem dX1_followPacket_29 : decode cX1_followPacket 29 = .ok (.ireturn, 1) := by decide +kernel
theorem dX1_followPacket_30 : decode cX1_followPacket 30 = .ok (.iload 4, 2) := by decide +kernel
theorem dX1_followPacket_32 : decode cX1_followPacket 32 = .ok (.iload_n 2, 1) := by decide +kernel
theorem dX1_followPacket_33 : decode cX1_followPacket 33 = .ok (.if_icmp .ne 8, 3) := by decide +kernel
theorem dX1_followPacket_36 : decode cX1_followPacket 36 = .ok (.bipush (-8), 2) := by decide +kernel
theorem dX1_followPacket_38 : decode cX1_followPacket 38 = .ok (.goto 5, 3) := by decide +kernel
theorem dX1_followPacket_41 : decode cX1_followPacket 41 = .ok (.iload 4, 2) := by decide +kernel
theorem dX1_followPacket_43 : decode cX1_followPacket 43 = .ok (.ireturn, 1) := by decide +kernel
set_option maxRecDepth 20000 in
theorem ggX1_countLoops_X1_followPacket : GoodIn wsX1_countLoops wsX1_followPacket := goodIn_r _ [5, 6, 7, 8, 9, 10, 11, 12, 13, 14, 15, 16, 17, 18, 19, 20, 21, 22, 23] (by decide +kernel) (by decide +kernel)
set_option maxRecDepth 20000 in
theorem gX1_countLoops_X1_followPacket : GoodIn wsX1_countLoops (wsV RX1 119 RX1 yX1_followPacket wsX1_followPacket) := goodIn_app (goodIn_of _ (by decide +kernel)) ggX1_countLoops_X1_followPacket
theorem dX1_countLoops_0 : decode cX1_countLoops 0 = .ok (.iconst 0, 1) := by decide +kernel
theorem dX1_countLoops_1 : decode cX1_countLoops 1 = .ok (.istore_n 3, 1) := by decide +kernel
theorem dX1_countLoops_2 : decode cX1_countLoops 2 = .ok (.iconst 0, 1) := by decide +kernel
theorem dX1_countLoops_3 : decode cX1_countLoops 3 = .ok (.istore 4, 2) := by decide +kernel
theorem dX1_countLoops_5 : decode cX1_countLoops 5 = .ok (.iload 4, 2) := by decide +kernel
theorem dX1_countLoops_7 : decode cX1_countLoops 7 = .ok (.bipush 16, 2) := by decide +kernel
theorem dX1_countLoops_9 : decode cX1_countLoops 9 = .ok (.if_icmp .ge 25, 3) := by decide +kernel
theorem dX1_countLoops_12 : decode cX1_countLoops 12 = .ok (.aload_n 0, 1) := by decide +kernel
theorem dX1_countLoops_13 : decode cX1_countLoops 13 = .ok (.aload_n 1, 1) := by decide +kernel
theorem dX1_countLoops_14 : decode cX1_countLoops 14 = .ok (.iload_n 2, 1) := by decide +kernel
theorem dX1_countLoops_15 : decode cX1_countLoops 15 = .ok (.iload 4, 2) := by decide +kernel
theorem dX1_countLoops_17 : decode cX1_countLoops 17 = .ok (.invokevirtual 119, 3) := by decide +kernel
theorem dX1_countLoops_20 : decode cX1_countLoops 20 = .ok (.bipush (-8), 2) := by decide +kernel
theorem dX1_countLoops_22 : decode cX1_countLoops 22 = .ok (.if_icmp .ne 6, 3) := by decide +kernel
theorem dX1_countLoops_25 : decode cX1_countLoops 25 = .ok (.iinc 3 1, 3) := by decide +kernel
theorem dX1_countLoops_28 : decode cX1_countLoops 28 = .ok (.iinc 4 1, 3) := by decide +kernel
theorem dX1_countLoops_31 : decode cX1_countLoops 31 = .ok (.goto (-26), 3) := by decide +kernel
theorem dX1_countLoops_34 : decode cX1_countLoops 34 = .ok (.iload_n 3, 1) := by decide +kernel
theorem dX1_countLoops_35 : decode cX1_countLoops 35 = .ok (.ireturn, 1) := by decide +kernel
end
section
theorem dX2_init_0 : decode cX2_init 0 = .ok (.aload_n 0, 1) := by decide +kernel
theorem dX2_init_1 : decode cX2_init 1 = .ok (.invokespecial 1, 3) := by decide +kernel
theorem dX2_init_4 : decode cX2_init 4 = .ok (.aload_n 0, 1) := by decide +kernel
theorem dX2_init_5 : decode cX2_init 5 = .ok (.bipush 10, 2) := by decide +kernel
theorem dX2_init_7 : decode cX2_init 7 = .ok (.putfield 7, 3) := by decide +kernel
theorem dX2_init_10 : decode cX2_init 10 = .ok (.aload_n 0, 1) := by decide +kernel
theorem dX2_init_11 : decode cX2_init 11 = .ok (.bipush 20, 2) := by decide +kernel
theorem dX2_init_13 : decode cX2_init 13 = .ok (.putfield 13, 3) := by decide +kernel
theorem dX2_init_16 : decode cX2_init 16 = .ok (.aload_n 0, 1) := by decide +kernel
theorem dX2_init_17 : decode cX2_init 17 = .ok (.bipush 15, 2) := by decide +kernel
theorem dX2_init_19 : decode cX2_init 19 = .ok (.putfield 16, 3) := by decide +kernel
theorem dX2_init_22 : decode cX2_init 22 = .ok (.aload_n 0, 1) := by decide +kernel
theorem dX2_init_23 : decode cX2_init 23 = .ok (.iconst 5, 1) := by decide +kernel
theorem dX2_init_24 : decode cX2_init 24 = .ok (.newarray .boolean, 2) := by decide +kernel
theorem dX2_init_26 : decode cX2_init 26 = .ok (.putfield 19, 3) := by decide +kernel
theorem dX2_init_29 : decode cX2_init 29 = .ok (.aload_n 0, 1) := by decide +kernel
theorem dX2_init_30 : decode cX2_init 30 = .ok (.iconst 5, 1) := by decide +kernel
theorem dX2_init_31 : decode cX2_init 31 = .ok (.newarray .int, 2) := by decide +kernel
theorem dX2_init_33 : decode cX2_init 33 = .ok (.putfield 23, 3) := by decide +kernel
theorem dX2_init_36 : decode cX2_init 36 = .ok (.aload_n 0, 1) := by decide +kernel
theorem dX2_init_37 : decode cX2_init 37 = .ok (.iconst 5, 1) := by decide +kernel
theorem dX2_init_38 : decode cX2_init 38 = .ok (.newarray .int, 2) := by decide +kernel
theorem dX2_init_40 : decode cX2_init 40 = .ok (.putfield 27, 3) := by decide +kernel
theorem dX2_init_43 : decode cX2_init 43 = .ok (.aload_n 0, 1) := by decide +kernel
theorem dX2_init_44 : decode cX2_init 44 = .ok (.iconst 5, 1) := by decide +kernel
theorem dX2_init_45 : decode cX2_init 45 = .ok (.newarray .int, 2) := by decide +kernel
theorem dX2_init_47 : decode cX2_init 47 = .ok (.putfield 30, 3) := by decide +kernel
theorem dX2_init_50 : decode cX2_init 50 = .ok (.aload_n 0, 1) := by decide +kernel
theorem dX2_init_51 : decode cX2_init 51 = .ok (.bipush 10, 2) := by decide +kernel
theorem dX2_init_53 : decode cX2_init 53 = .ok (.newarray .boolean, 2) := by decide +kernel
theorem dX2_init_55 : decode cX2_init 55 = .ok (.putfield 33, 3) := by decide +kernel
theorem dX2_init_58 : decode cX2_init 58 = .ok (.aload_n 0, 1) := by decide +kernel
theorem dX2_init_59 : decode cX2_init 59 = .ok (.bipush 80, 2) := by decide +kernel
theorem dX2_init_61 : decode cX2_init 61 = .ok (.newarray .int, 2) := by decide +kernel
theorem dX2_init_63 : decode cX2_init 63 = .ok (.putfield 36, 3) := by decide +kernel
theorem dX2_init_66 : decode cX2_init 66 = .ok (.aload_n 0, 1) := by decide +kernel
theorem dX2_init_67 : decode cX2_init 67 = .ok (.bipush 80, 2) := by decide +kernel
theorem dX2_init_69 : decode cX2_init 69 = .ok (.newarray .int, 2) := by decide +kernel
theorem dX2_init_71 : decode cX2_init 71 = .ok (.putfield 39, 3) := by decide +kernel
theorem dX2_init_74 : decode cX2_init 74 = .ok (.aload_n 0, 1) := by decide +kernel
theorem dX2_init_75 : decode cX2_init 75 = .ok (.bipush 80, 2) := by decide +kernel
theorem dX2_init_77 : decode cX2_init 77 = .ok (.newarray .boolean, 2) := by decide +kernel
theorem dX2_init_79 : decode cX2_init 79 = .ok (.putfield 42, 3) := by decide +kernel
theorem dX2_init_82 : decode cX2_init 82 = .ok (.aload_n 0, 1) := by decide +kernel
theorem dX2_init_83 : decode cX2_init 83 = .ok (.bipush 16, 2) := by decide +kernel
theorem dX2_init_85 : decode cX2_init 85 = .ok (.newarray .int, 2) := by decide +kernel
theorem dX2_init_87 : decode cX2_init 87 = .ok (.putfield 45, 3) := by decide +kernel
theorem dX2_init_90 : decode cX2_init 90 = .ok (.aload_n 0, 1) := by decide +kernel
theorem dX2_init_91 : decode cX2_init 91 = .ok (.bipush 16, 2) := by decide +kernel
theorem dX2_init_93 : decode cX2_init 93 = .ok (.newarray .boolean, 2) := by decide +kernel
theorem dX2_init_95 : decode cX2_init 95 = .ok (.putfield 48, 3) := by decide +kernel
theorem dX2_init_98 : decode cX2_init 98 = .ok (.iconst 0, 1) := by decide +kernel
theorem dX2_init_99 : decode cX2_init 99 = .ok (.istore_n 1, 1) := by decide +kernel
theorem dX2_init_100 : decode cX2_init 100 = .ok (.iload_n 1, 1) := by decide +kernel
theorem dX2_init_101 : decode cX2_init 101 = .ok (.bipush 16, 2) := by decide +kernel
theorem dX2_init_103 : decode cX2_init 103 = .ok (.if_icmp .ge 17, 3) := by decide +kernel
theorem dX2_init_106 : decode cX2_init 106 = .ok (.aload_n 0, 1) := by decide +kernel
theorem dX2_init_107 : decode cX2_init 107 = .ok (.getfield 45, 3) := by decide +kernel
theorem dX2_init_110 : decode cX2_init 110 = .ok (.iload_n 1, 1) := by decide +kernel
theorem dX2_init_111 : decode cX2_init 111 = .ok (.bipush (-6), 2) := by decide +kernel
theorem dX2_init_113 : decode cX2_init 113 = .ok (.iastore, 1) := by decide +kernel
theorem dX2_init_114 : decode cX2_init 114 = .ok (.iinc 1 1, 3) := by decide +kernel
theorem dX2_init_117 : decode cX2_init 117 = .ok (.goto (-17), 3) := by decide +kernel
theorem dX2_init_120 : decode cX2_init 120 = .ok (.return_, 1) := by decide +kernel
theorem dX2_within_0 : decode cX2_within 0 = .ok (.iload_n 0, 1) := by decide +kernel
theorem dX2_within_1 : decode cX2_within 1 = .ok (.iload_n 1, 1) := by decide +kernel
theorem dX2_within_2 : decode cX2_within 2 = .ok (.if_icmp .lt 12, 3) := by decide +kernel
theorem dX2_within_5 : decode cX2_within 5 = .ok (.iload_n 0, 1) := by decide +kernel
theorem dX2_within_6 : decode cX2_within 6 = .ok (.iload_n 2, 1) := by decide +kernel
theorem dX2_within_7 : decode cX2_within 7 = .ok (.if_icmp .gt 7, 3) := by decide +kernel
theorem dX2_within_10 : decode cX2_within 10 = .ok (.iconst 1, 1) := by decide +kernel
theorem dX2_within_11 : decode cX2_within 11 = .ok (.goto 4, 3) := by decide +kernel
theorem dX2_within_14 : decode cX2_within 14 = .ok (.iconst 0, 1) := by decide +kernel
theorem dX2_within_15 : decode cX2_within 15 = .ok (.ireturn, 1) := by decide +kernel
set_option maxRecDepth 20000 in
theorem ggX2_isRoute_X2_within : GoodIn wsX2_isRoute wsX2_within := goodIn_r _ [4] (by decide +kernel) (by decide +kernel)
set_option maxRecDepth 20000 in
theorem gX2_isRoute_X2_within : GoodIn wsX2_isRoute (va_wsS RX2 51 yX2_within wsX2_within) := goodIn_app (goodIn_of _ (by decide +kernel)) ggX2_isRoute_X2_within
theorem dX2_isRoute_0 : decode cX2_isRoute 0 = .ok (.iload_n 0, 1) := by decide +kernel
theorem dX2_isRoute_1 : decode cX2_isRoute 1 = .ok (.iconst 0, 1) := by decide +kernel
theorem dX2_isRoute_2 : decode cX2_isRoute 2 = .ok (.iconst 1, 1) := by decide +kernel
theorem dX2_isRoute_3 : decode cX2_isRoute 3 = .ok (.invokestatic 51, 3) := by decide +kernel
theorem dX2_isRoute_6 : decode cX2_isRoute 6 = .ok (.ifCond .eq 17, 3) := by decide +kernel
theorem dX2_isRoute_9 : decode cX2_isRoute 9 = .ok (.iload_n 1, 1) := by decide +kernel
theorem dX2_isRoute_10 : decode cX2_isRoute 10 = .ok (.iconst 0, 1) := by decide +kernel
theorem dX2_isRoute_11 : decode cX2_isRoute 11 = .ok (.bipush 7, 2) := by decide +kernel
theorem dX2_isRoute_13 : decode cX2_isRoute 13 = .ok (.invokestatic 51, 3) := by decide +kernel
theorem dX2_isRoute_16 : decode cX2_isRoute 16 = .ok (.ifCond .eq 7, 3) := by decide +kernel
theorem dX2_isRoute_19 : decode cX2_isRoute 19 = .ok (.iconst 1, 1) := by decide +kernel
theorem dX2_isRoute_20 : decode cX2_isRoute 20 = .ok (.goto 4, 3) := by decide +kernel
theorem dX2_isRoute_23 : decode cX2_isRoute 23 = .ok (.iconst 0, 1) := by decide +kernel
theorem dX2_isRoute_24 : decode cX2_isRoute 24 = .ok (.ireturn, 1) := by decide +kernel
set_option maxRecDepth 20000 in
theorem ggX2_setRestartTime_X2_within : GoodIn wsX2_setRestartTime wsX2_within := goodIn_r _ [5] (by decide +kernel) (by decide +kernel)
set_option maxRecDepth 20000 in
theorem gX2_setRestartTime_X2_within : GoodIn wsX2_setRestartTime (va_wsS RX2 51 yX2_within wsX2_within) := goodIn_app (goodIn_of _ (by decide +kernel)) ggX2_setRestartTime_X2_within
theorem dX2_setRestartTime_0 : decode cX2_setRestartTime 0 = .ok (.iload_n 1, 1) := by decide +kernel
theorem dX2_setRestartTime_1 : decode cX2_setRestartTime 1 = .ok (.iconst 1, 1) := by decide +kernel
theorem dX2_setRestartTime_2 : decode cX2_setRestartTime 2 = .ok (.bipush 50, 2) := by decide +kernel
theorem dX2_setRestartTime_4 : decode cX2_setRestartTime 4 = .ok (.invokestatic 51, 3) := by decide +kernel
theorem dX2_setRestartTime_7 : decode cX2_setRestartTime 7 = .ok (.ifCond .ne 6, 3) := by decide +kernel
theorem dX2_setRestartTime_10 : decode cX2_setRestartTime 10 = .ok (.bipush (-3), 2) := by decide +kernel
theorem dX2_setRestartTime_12 : decode cX2_setRestartTime 12 = .ok (.ireturn, 1) := by decide +kernel
theorem dX2_setRestartTime_13 : decode cX2_setRestartTime 13 = .ok (.aload_n 0, 1) := by decide +kernel
theorem dX2_setRestartTime_14 : decode cX2_setRestartTime 14 = .ok (.getfield 7, 3) := by decide +kernel
theorem dX2_setRestartTime_17 : decode cX2_setRestartTime 17 = .ok (.istore_n 2, 1) := by decide +kernel
theorem dX2_setRestartTime_18 : decode cX2_setRestartTime 18 = .ok (.aload_n 0, 1) := by decide +kernel
theorem dX2_setRestartTime_19 : decode cX2_setRestartTime 19 = .ok (.iload_n 1, 1) := by decide +kernel
theorem dX2_setRestartTime_20 : decode cX2_setRestartTime 20 = .ok (.putfield 7, 3) := by decide +kernel
theorem dX2_setRestartTime_23 : decode cX2_setRestartTime 23 = .ok (.iload_n 2, 1) := by decide +kernel
theorem dX2_setRestartTime_24 : decode cX2_setRestartTime 24 = .ok (.ireturn, 1) := by decide +kernel
set_option maxRecDepth 20000 in
theorem ggX2_setStaleTime_X2_within : GoodIn wsX2_setStaleTime wsX2_within := goodIn_r _ [5] (by decide +kernel) (by decide +kernel)
set_option maxRecDepth 20000 in
theorem gX2_setStaleTime_X2_within : GoodIn wsX2_setStaleTime (va_wsS RX2 51 yX2_within wsX2_within) := goodIn_app (goodIn_of _ (by decide +kernel)) ggX2_setStaleTime_X2_within
theorem dX2_setStaleTime_0 : decode cX2_setStaleTime 0 = .ok (.iload_n 1, 1) := by decide +kernel
theorem dX2_setStaleTime_1 : decode cX2_setStaleTime 1 = .ok (.iconst 1, 1) := by decide +kernel
theorem dX2_setStaleTime_2 : decode cX2_setStaleTime 2 = .ok (.bipush 50, 2) := by decide +kernel
theorem dX2_setStaleTime_4 : decode cX2_setStaleTime 4 = .ok (.invokestatic 51, 3) := by decide +kernel
theorem dX2_setStaleTime_7 : decode cX2_setStaleTime 7 = .ok (.ifCond .ne 6, 3) := by decide +kernel
theorem dX2_setStaleTime_10 : decode cX2_setStaleTime 10 = .ok (.bipush (-3), 2) := by decide +kernel
theorem dX2_setStaleTime_12 : decode cX2_setStaleTime 12 = .ok (.ireturn, 1) := by decide +kernel
theorem dX2_setStaleTime_13 : decode cX2_setStaleTime 13 = .ok (.aload_n 0, 1) := by decide +kernel
theorem dX2_setStaleTime_14 : decode cX2_setStaleTime 14 = .ok (.getfield 13, 3) := by decide +kernel
theorem dX2_setStaleTime_17 : decode cX2_setStaleTime 17 = .ok (.istore_n 2, 1) := by decide +kernel
theorem dX2_setStaleTime_18 : decode cX2_setStaleTime 18 = .ok (.aload_n 0, 1) := by decide +kernel
theorem dX2_setStaleTime_19 : decode cX2_setStaleTime 19 = .ok (.iload_n 1, 1) := by decide +kernel
theorem dX2_setStaleTime_20 : decode cX2_setStaleTime 20 = .ok (.putfield 13, 3) := by decide +kernel
theorem dX2_setStaleTime_23 : decode cX2_setStaleTime 23 = .ok (.iload_n 2, 1) := by decide +kernel
theorem dX2_setStaleTime_24 : decode cX2_setStaleTime 24 = .ok (.ireturn, 1) := by decide +kernel
set_option maxRecDepth 20000 in
theorem ggX2_setDeferralTime_X2_within : GoodIn wsX2_setDeferralTime wsX2_within := goodIn_r _ [5] (by decide +kernel) (by decide +kernel)
set_option maxRecDepth 20000 in
theorem gX2_setDeferralTime_X2_within : GoodIn wsX2_setDeferralTime (va_wsS RX2 51 yX2_within wsX2_within) := goodIn_app (goodIn_of _ (by decide +kernel)) ggX2_setDeferralTime_X2_within
theorem dX2_setDeferralTime_0 : decode cX2_setDeferralTime 0 = .ok (.iload_n 1, 1) := by decide +kernel
theorem dX2_setDeferralTime_1 : decode cX2_setDeferralTime 1 = .ok (.iconst 1, 1) := by decide +kernel
theorem dX2_setDeferralTime_2 : decode cX2_setDeferralTime 2 = .ok (.bipush 50, 2) := by decide +kernel
theorem dX2_setDeferralTime_4 : decode cX2_setDeferralTime 4 = .ok (.invokestatic 51, 3) := by decide +kernel
theorem dX2_setDeferralTime_7 : decode cX2_setDeferralTime 7 = .ok (.ifCond .ne 6, 3) := by decide +kernel
theorem dX2_setDeferralTime_10 : decode cX2_setDeferralTime 10 = .ok (.bipush (-3), 2) := by decide +kernel
theorem dX2_setDeferralTime_12 : decode cX2_setDeferralTime 12 = .ok (.ireturn, 1) := by decide +kernel
theorem dX2_setDeferralTime_13 : decode cX2_setDeferralTime 13 = .ok (.aload_n 0, 1) := by decide +kernel
theorem dX2_setDeferralTime_14 : decode cX2_setDeferralTime 14 = .ok (.getfield 16, 3) := by decide +kernel
theorem dX2_setDeferralTime_17 : decode cX2_setDeferralTime 17 = .ok (.istore_n 2, 1) := by decide +kernel
theorem dX2_setDeferralTime_18 : decode cX2_setDeferralTime 18 = .ok (.aload_n 0, 1) := by decide +kernel
theorem dX2_setDeferralTime_19 : decode cX2_setDeferralTime 19 = .ok (.iload_n 1, 1) := by decide +kernel
theorem dX2_setDeferralTime_20 : decode cX2_setDeferralTime 20 = .ok (.putfield 16, 3) := by decide +kernel
theorem dX2_setDeferralTime_23 : decode cX2_setDeferralTime 23 = .ok (.iload_n 2, 1) := by decide +kernel
theorem dX2_setDeferralTime_24 : decode cX2_setDeferralTime 24 = .ok (.ireturn, 1) := by decide +kernel
set_option maxRecDepth 20000 in
theorem ggX2_isPeer_X2_within : GoodIn wsX2_isPeer wsX2_within := goodIn_r _ [5] (by decide +kernel) (by decide +kernel)
set_option maxRecDepth 20000 in
theorem gX2_isPeer_X2_within : GoodIn wsX2_isPeer (va_wsS RX2 51 yX2_within wsX2_within) := goodIn_app (goodIn_of _ (by decide +kernel)) ggX2_isPeer_X2_within
theorem dX2_isPeer_0 : decode cX2_isPeer 0 = .ok (.iload_n 1, 1) := by decide +kernel
theorem dX2_isPeer_1 : decode cX2_isPeer 1 = .ok (.iconst 0, 1) := by decide +kernel
theorem dX2_isPeer_2 : decode cX2_isPeer 2 = .ok (.aload_n 0, 1) := by decide +kernel
theorem dX2_isPeer_3 : decode cX2_isPeer 3 = .ok (.getfield 55, 3) := by decide +kernel
theorem dX2_isPeer_6 : decode cX2_isPeer 6 = .ok (.iconst 1, 1) := by decide +kernel
theorem dX2_isPeer_7 : decode cX2_isPeer 7 = .ok (.isub, 1) := by decide +kernel
theorem dX2_isPeer_8 : decode cX2_isPeer 8 = .ok (.invokestatic 51, 3) := by decide +kernel
theorem dX2_isPeer_11 : decode cX2_isPeer 11 = .ok (.ireturn, 1) := by decide +kernel
theorem dX2_bestPeer_0 : decode cX2_bestPeer 0 = .ok (.bipush (-6), 2) := by decide +kernel
theorem dX2_bestPeer_2 : decode cX2_bestPeer 2 = .ok (.istore_n 2, 1) := by decide +kernel
theorem dX2_bestPeer_3 : decode cX2_bestPeer 3 = .ok (.iconst 0, 1) := by decide +kernel
theorem dX2_bestPeer_4 : decode cX2_bestPeer 4 = .ok (.istore_n 3, 1) := by decide +kernel
theorem dX2_bestPeer_5 : decode cX2_bestPeer 5 = .ok (.iload_n 3, 1) := by decide +kernel
theorem dX2_bestPeer_6 : decode cX2_bestPeer 6 = .ok (.aload_n 0, 1) := by decide +kernel
theorem dX2_bestPeer_7 : decode cX2_bestPeer 7 = .ok (.getfield 55, 3) := by decide +kernel
theorem dX2_bestPeer_10 : decode cX2_bestPeer 10 = .ok (.if_icmp .ge 81, 3) := by decide +kernel
theorem dX2_bestPeer_13 : decode cX2_bestPeer 13 = .ok (.aload_n 0, 1) := by decide +kernel
theorem dX2_bestPeer_14 : decode cX2_bestPeer 14 = .ok (.getfield 23, 3) := by decide +kernel
theorem dX2_bestPeer_17 : decode cX2_bestPeer 17 = .ok (.iload_n 3, 1) := by decide +kernel
theorem dX2_bestPeer_18 : decode cX2_bestPeer 18 = .ok (.iaload, 1) := by decide +kernel
theorem dX2_bestPeer_19 : decode cX2_bestPeer 19 = .ok (.ifCond .ne 21, 3) := by decide +kernel
theorem dX2_bestPeer_22 : decode cX2_bestPeer 22 = .ok (.aload_n 0, 1) := by decide +kernel
theorem dX2_bestPeer_23 : decode cX2_bestPeer 23 = .ok (.getfield 36, 3) := by decide +kernel
theorem dX2_bestPeer_26 : decode cX2_bestPeer 26 = .ok (.bipush 16, 2) := by decide +kernel
theorem dX2_bestPeer_28 : decode cX2_bestPeer 28 = .ok (.iload_n 3, 1) := by decide +kernel
theorem dX2_bestPeer_29 : decode cX2_bestPeer 29 = .ok (.imul, 1) := by decide +kernel
theorem dX2_bestPeer_30 : decode cX2_bestPeer 30 = .ok (.iload_n 1, 1) := by decide +kernel
theorem dX2_bestPeer_31 : decode cX2_bestPeer 31 = .ok (.iadd, 1) := by decide +kernel
theorem dX2_bestPeer_32 : decode cX2_bestPeer 32 = .ok (.iaload, 1) := by decide +kernel
theorem dX2_bestPeer_33 : decode cX2_bestPeer 33 = .ok (.ifCond .le 7, 3) := by decide +kernel
theorem dX2_bestPeer_36 : decode cX2_bestPeer 36 = .ok (.iconst 1, 1) := by decide +kernel
theorem dX2_bestPeer_37 : decode cX2_bestPeer 37 = .ok (.goto 4, 3) := by decide +kernel
theorem dX2_bestPeer_40 : decode cX2_bestPeer 40 = .ok (.iconst 0, 1) := by decide +kernel
theorem dX2_bestPeer_41 : decode cX2_bestPeer 41 = .ok (.istore 4, 2) := by decide +kernel
theorem dX2_bestPeer_43 : decode cX2_bestPeer 43 = .ok (.iload 4, 2) := by decide +kernel
theorem dX2_bestPeer_45 : decode cX2_bestPeer 45 = .ok (.ifCond .eq 38, 3) := by decide +kernel
theorem dX2_bestPeer_48 : decode cX2_bestPeer 48 = .ok (.iload_n 2, 1) := by decide +kernel
theorem dX2_bestPeer_49 : decode cX2_bestPeer 49 = .ok (.bipush (-6), 2) := by decide +kernel
theorem dX2_bestPeer_51 : decode cX2_bestPeer 51 = .ok (.if_icmp .eq 28, 3) := by decide +kernel
theorem dX2_bestPeer_54 : decode cX2_bestPeer 54 = .ok (.aload_n 0, 1) := by decide +kernel
theorem dX2_bestPeer_55 : decode cX2_bestPeer 55 = .ok (.getfield 36, 3) := by decide +kernel
theorem dX2_bestPeer_58 : decode cX2_bestPeer 58 = .ok (.bipush 16, 2) := by decide +kernel
theorem dX2_bestPeer_60 : decode cX2_bestPeer 60 = .ok (.iload_n 3, 1) := by decide +kernel
theorem dX2_bestPeer_61 : decode cX2_bestPeer 61 = .ok (.imul, 1) := by decide +kernel
theorem dX2_bestPeer_62 : decode cX2_bestPeer 62 = .ok (.iload_n 1, 1) := by decide +kernel
theorem dX2_bestPeer_63 : decode cX2_bestPeer 63 = .ok (.iadd, 1) := by decide +kernel
theorem dX2_bestPeer_64 : decode cX2_bestPeer 64 = .ok (.iaload, 1) := by decide +kernel
theorem dX2_bestPeer_65 : decode cX2_bestPeer 65 = .ok (.aload_n 0, 1) := by decide +kernel
theorem dX2_bestPeer_66 : decode cX2_bestPeer 66 = .ok (.getfield 36, 3) := by decide +kernel
theorem dX2_bestPeer_69 : decode cX2_bestPeer 69 = .ok (.bipush 16, 2) := by decide +kernel
theorem dX2_bestPeer_71 : decode cX2_bestPeer 71 = .ok (.iload_n 2, 1) := by decide +kernel
theorem dX2_bestPeer_72 : decode cX2_bestPeer 72 = .ok (.imul, 1) := by decide +kernel
theorem dX2_bestPeer_73 : decode cX2_bestPeer 73 = .ok (.iload_n 1, 1) := by decide +kernel
theorem dX2_bestPeer_74 : decode cX2_bestPeer 74 = .ok (.iadd, 1) := by decide +kernel
theorem dX2_bestPeer_75 : decode cX2_bestPeer 75 = .ok (.iaload, 1) := by decide +kernel
theorem dX2_bestPeer_76 : decode cX2_bestPeer 76 = .ok (.if_icmp .ge 7, 3) := by decide +kernel
theorem dX2_bestPeer_79 : decode cX2_bestPeer 79 = .ok (.iload_n 3, 1) := by decide +kernel
theorem dX2_bestPeer_80 : decode cX2_bestPeer 80 = .ok (.goto 4, 3) := by decide +kernel
theorem dX2_bestPeer_83 : decode cX2_bestPeer 83 = .ok (.iload_n 2, 1) := by decide +kernel
theorem dX2_bestPeer_84 : decode cX2_bestPeer 84 = .ok (.istore_n 2, 1) := by decide +kernel
theorem dX2_bestPeer_85 : decode cX2_bestPeer 85 = .ok (.iinc 3 1, 3) := by decide +kernel
theorem dX2_bestPeer_88 : decode cX2_bestPeer 88 = .ok (.goto (-83), 3) := by decide +kernel
theorem dX2_bestPeer_91 : decode cX2_bestPeer 91 = .ok (.iload_n 2, 1) := by decide +kernel
theorem dX2_bestPeer_92 : decode cX2_bestPeer 92 = .ok (.ireturn, 1) := by decide +kernel
theorem dX2_updates_0 : decode cX2_updates 0 = .ok (.bipush 16, 2) := by decide +kernel
theorem dX2_updates_2 : decode cX2_updates 2 = .ok (.iload_n 1, 1) := by decide +kernel
theorem dX2_updates_3 : decode cX2_updates 3 = .ok (.imul, 1) := by decide +kernel
theorem dX2_updates_4 : decode cX2_updates 4 = .ok (.iload_n 2, 1) := by decide +kernel
theorem dX2_updates_5 : decode cX2_updates 5 = .ok (.iadd, 1) := by decide +kernel
theorem dX2_updates_6 : decode cX2_updates 6 = .ok (.istore 4, 2) := by decide +kernel
theorem dX2_updates_8 : decode cX2_updates 8 = .ok (.iload_n 3, 1) := by decide +kernel
theorem dX2_updates_9 : decode cX2_updates 9 = .ok (.bipush (-6), 2) := by decide +kernel
theorem dX2_updates_11 : decode cX2_updates 11 = .ok (.if_icmp .eq 39, 3) := by decide +kernel
theorem dX2_updates_14 : decode cX2_updates 14 = .ok (.iload_n 3, 1) := by decide +kernel
theorem dX2_updates_15 : decode cX2_updates 15 = .ok (.iload_n 1, 1) := by decide +kernel
theorem dX2_updates_16 : decode cX2_updates 16 = .ok (.if_icmp .eq 34, 3) := by decide +kernel
theorem dX2_updates_19 : decode cX2_updates 19 = .ok (.aload_n 0, 1) := by decide +kernel
theorem dX2_updates_20 : decode cX2_updates 20 = .ok (.getfield 39, 3) := by decide +kernel
theorem dX2_updates_23 : decode cX2_updates 23 = .ok (.iload 4, 2) := by decide +kernel
theorem dX2_updates_25 : decode cX2_updates 25 = .ok (.aload_n 0, 1) := by decide +kernel
theorem dX2_updates_26 : decode cX2_updates 26 = .ok (.getfield 36, 3) := by decide +kernel
theorem dX2_updates_29 : decode cX2_updates 29 = .ok (.bipush 16, 2) := by decide +kernel
theorem dX2_updates_31 : decode cX2_updates 31 = .ok (.iload_n 3, 1) := by decide +kernel
theorem dX2_updates_32 : decode cX2_updates 32 = .ok (.imul, 1) := by decide +kernel
theorem dX2_updates_33 : decode cX2_updates 33 = .ok (.iload_n 2, 1) := by decide +kernel
theorem dX2_updates_34 : decode cX2_updates 34 = .ok (.iadd, 1) := by decide +kernel
theorem dX2_updates_35 : decode cX2_updates 35 = .ok (.iaload, 1) := by decide +kernel
theorem dX2_updates_36 : decode cX2_updates 36 = .ok (.iconst 1, 1) := by decide +kernel
theorem dX2_updates_37 : decode cX2_updates 37 = .ok (.iadd, 1) := by decide +kernel
theorem dX2_updates_38 : decode cX2_updates 38 = .ok (.iastore, 1) := by decide +kernel
theorem dX2_updates_39 : decode cX2_updates 39 = .ok (.aload_n 0, 1) := by decide +kernel
theorem dX2_updates_40 : decode cX2_updates 40 = .ok (.getfield 42, 3) := by decide +kernel
theorem dX2_updates_43 : decode cX2_updates 43 = .ok (.iload 4, 2) := by decide +kernel
theorem dX2_updates_45 : decode cX2_updates 45 = .ok (.iconst 0, 1) := by decide +kernel
theorem dX2_updates_46 : decode cX2_updates 46 = .ok (.bastore, 1) := by decide +kernel
theorem dX2_updates_47 : decode cX2_updates 47 = .ok (.goto 21, 3) := by decide +kernel
theorem dX2_updates_50 : decode cX2_updates 50 = .ok (.aload_n 0, 1) := by decide +kernel
theorem dX2_updates_51 : decode cX2_updates 51 = .ok (.getfield 42, 3) := by decide +kernel
theorem dX2_updates_54 : decode cX2_updates 54 = .ok (.iload 4, 2) := by decide +kernel
theorem dX2_updates_56 : decode cX2_updates 56 = .ok (.baload, 1) := by decide +kernel
theorem dX2_updates_57 : decode cX2_updates 57 = .ok (.ifCond .ne 11, 3) := by decide +kernel
theorem dX2_updates_60 : decode cX2_updates 60 = .ok (.aload_n 0, 1) := by decide +kernel
theorem dX2_updates_61 : decode cX2_updates 61 = .ok (.getfield 39, 3) := by decide +kernel
theorem dX2_updates_64 : decode cX2_updates 64 = .ok (.iload 4, 2) := by decide +kernel
theorem dX2_updates_66 : decode cX2_updates 66 = .ok (.iconst 0, 1) := by decide +kernel
theorem dX2_updates_67 : decode cX2_updates 67 = .ok (.iastore, 1) := by decide +kernel
theorem dX2_updates_68 : decode cX2_updates 68 = .ok (.return_, 1) := by decide +kernel
set_option maxRecDepth 20000 in
theorem ggX2_selects_X2_bestPeer : GoodIn wsX2_selects wsX2_bestPeer := goodIn_r _ [9, 3, 4, 10, 17, 18, 19, 20, 21, 22, 23, 24, 25, 26, 27, 28, 29, 30, 31, 32] (by decide +kernel) (by decide +kernel)
set_option maxRecDepth 20000 in
theorem gX2_selects_X2_bestPeer : GoodIn wsX2_selects (wsV RX2 58 RX2 yX2_bestPeer wsX2_bestPeer) := goodIn_app (goodIn_of _ (by decide +kernel)) ggX2_selects_X2_bestPeer
set_option maxRecDepth 20000 in
theorem ggX2_selects_X2_updates : GoodIn wsX2_selects wsX2_updates := goodIn_r _ [14, 15, 10, 16, 17, 18, 19, 20, 21, 22, 23, 24, 25, 26, 27, 28, 29, 30, 31, 32] (by decide +kernel) (by decide +kernel)
set_option maxRecDepth 20000 in
theorem gX2_selects_X2_updates : GoodIn wsX2_selects (wsV RX2 62 RX2 yX2_updates wsX2_updates) := goodIn_app (goodIn_of _ (by decide +kernel)) ggX2_selects_X2_updates
theorem dX2_selects_0 : decode cX2_selects 0 = .ok (.aload_n 0, 1) := by decide +kernel
theorem dX2_selects_1 : decode cX2_selects 1 = .ok (.iload_n 1, 1) := by decide +kernel
theorem dX2_selects_2 : decode cX2_selects 2 = .ok (.invokevirtual 58, 3) := by decide +kernel
theorem dX2_selects_5 : decode cX2_selects 5 = .ok (.istore_n 2, 1) := by decide +kernel
theorem dX2_selects_6 : decode cX2_selects 6 = .ok (.aload_n 0, 1) := by decide +kernel
theorem dX2_selects_7 : decode cX2_selects 7 = .ok (.getfield 45, 3) := by decide +kernel
theorem dX2_selects_10 : decode cX2_selects 10 = .ok (.iload_n 1, 1) := by decide +kernel
theorem dX2_selects_11 : decode cX2_selects 11 = .ok (.iload_n 2, 1) := by decide +kernel
theorem dX2_selects_12 : decode cX2_selects 12 = .ok (.iastore, 1) := by decide +kernel
theorem dX2_selects_13 : decode cX2_selects 13 = .ok (.aload_n 0, 1) := by decide +kernel
theorem dX2_selects_14 : decode cX2_selects 14 = .ok (.getfield 48, 3) := by decide +kernel
theorem dX2_selects_17 : decode cX2_selects 17 = .ok (.iload_n 1, 1) := by decide +kernel
theorem dX2_selects_18 : decode cX2_selects 18 = .ok (.iconst 0, 1) := by decide +kernel
theorem dX2_selects_19 : decode cX2_selects 19 = .ok (.bastore, 1) := by decide +kernel
theorem dX2_selects_20 : decode cX2_selects 20 = .ok (.iconst 0, 1) := by decide +kernel
theorem dX2_selects_21 : decode cX2_selects 21 = .ok (.istore_n 3, 1) := by decide +kernel
theorem dX2_selects_22 : decode cX2_selects 22 = .ok (.iload_n 3, 1) := by decide +kernel
theorem dX2_selects_23 : decode cX2_selects 23 = .ok (.aload_n 0, 1) := by decide +kernel
theorem dX2_selects_24 : decode cX2_selects 24 = .ok (.getfield 55, 3) := by decide +kernel
theorem dX2_selects_27 : decode cX2_selects 27 = .ok (.if_icmp .ge 25, 3) := by decide +kernel
theorem dX2_selects_30 : decode cX2_selects 30 = .ok (.aload_n 0, 1) := by decide +kernel
theorem dX2_selects_31 : decode cX2_selects 31 = .ok (.getfield 23, 3) := by decide +kernel
theorem dX2_selects_34 : decode cX2_selects 34 = .ok (.iload_n 3, 1) := by decide +kernel
theorem dX2_selects_35 : decode cX2_selects 35 = .ok (.iaload, 1) := by decide +kernel
theorem dX2_selects_36 : decode cX2_selects 36 = .ok (.ifCond .ne 10, 3) := by decide +kernel
theorem dX2_selects_39 : decode cX2_selects 39 = .ok (.aload_n 0, 1) := by decide +kernel
theorem dX2_selects_40 : decode cX2_selects 40 = .ok (.iload_n 3, 1) := by decide +kernel
theorem dX2_selects_41 : decode cX2_selects 41 = .ok (.iload_n 1, 1) := by decide +kernel
theorem dX2_selects_42 : decode cX2_selects 42 = .ok (.iload_n 2, 1) := by decide +kernel
theorem dX2_selects_43 : decode cX2_selects 43 = .ok (.invokevirtual 62, 3) := by decide +kernel
theorem dX2_selects_46 : decode cX2_selects 46 = .ok (.iinc 3 1, 3) := by decide +kernel
theorem dX2_selects_49 : decode cX2_selects 49 = .ok (.goto (-27), 3) := by decide +kernel
theorem dX2_selects_52 : decode cX2_selects 52 = .ok (.return_, 1) := by decide +kernel
set_option maxRecDepth 20000 in
theorem ggX2_selectsAll_X2_selects : GoodIn wsX2_selectsAll wsX2_selects := goodIn_r _ [5, 6, 7, 8, 9, 10, 11, 12, 4, 13, 14, 15, 16, 17, 18, 19, 20, 21, 22, 23, 24, 25, 26, 27, 28, 29, 30, 31, 32, 33, 34, 35, 36] (by decide +kernel) (by decide +kernel)
set_option maxRecDepth 20000 in
theorem gX2_selectsAll_X2_selects : GoodIn wsX2_selectsAll (wsV RX2 66 RX2 yX2_selects wsX2_selects) := goodIn_app (goodIn_of _ (by decide +kernel)) ggX2_selectsAll_X2_selects
theorem dX2_selectsAll_0 : decode cX2_selectsAll 0 = .ok (.iconst 0, 1) := by decide +kernel
theorem dX2_selectsAll_1 : decode cX2_selectsAll 1 = .ok (.istore_n 1, 1) := by decide +kernel
theorem dX2_selectsAll_2 : decode cX2_selectsAll 2 = .ok (.iload_n 1, 1) := by decide +kernel
theorem dX2_selectsAll_3 : decode cX2_selectsAll 3 = .ok (.bipush 16, 2) := by decide +kernel
theorem dX2_selectsAll_5 : decode cX2_selectsAll 5 = .ok (.if_icmp .ge 14, 3) := by decide +kernel
theorem dX2_selectsAll_8 : decode cX2_selectsAll 8 = .ok (.aload_n 0, 1) := by decide +kernel
theorem dX2_selectsAll_9 : decode cX2_selectsAll 9 = .ok (.iload_n 1, 1) := by decide +kernel
theorem dX2_selectsAll_10 : decode cX2_selectsAll 10 = .ok (.invokevirtual 66, 3) := by decide +kernel
theorem dX2_selectsAll_13 : decode cX2_selectsAll 13 = .ok (.iinc 1 1, 3) := by decide +kernel
theorem dX2_selectsAll_16 : decode cX2_selectsAll 16 = .ok (.goto (-14), 3) := by decide +kernel
theorem dX2_selectsAll_19 : decode cX2_selectsAll 19 = .ok (.return_, 1) := by decide +kernel
theorem dX2_forgets_0 : decode cX2_forgets 0 = .ok (.iconst 0, 1) := by decide +kernel
theorem dX2_forgets_1 : decode cX2_forgets 1 = .ok (.istore_n 3, 1) := by decide +kernel
theorem dX2_forgets_2 : decode cX2_forgets 2 = .ok (.bipush 16, 2) := by decide +kernel
theorem dX2_forgets_4 : decode cX2_forgets 4 = .ok (.iload_n 1, 1) := by decide +kernel
theorem dX2_forgets_5 : decode cX2_forgets 5 = .ok (.imul, 1) := by decide +kernel
theorem dX2_forgets_6 : decode cX2_forgets 6 = .ok (.istore 4, 2) := by decide +kernel
theorem dX2_forgets_8 : decode cX2_forgets 8 = .ok (.iload 4, 2) := by decide +kernel
theorem dX2_forgets_10 : decode cX2_forgets 10 = .ok (.bipush 16, 2) := by decide +kernel
theorem dX2_forgets_12 : decode cX2_forgets 12 = .ok (.iload_n 1, 1) := by decide +kernel
theorem dX2_forgets_13 : decode cX2_forgets 13 = .ok (.iconst 1, 1) := by decide +kernel
theorem dX2_forgets_14 : decode cX2_forgets 14 = .ok (.iadd, 1) := by decide +kernel
theorem dX2_forgets_15 : decode cX2_forgets 15 = .ok (.imul, 1) := by decide +kernel
theorem dX2_forgets_16 : decode cX2_forgets 16 = .ok (.if_icmp .ge 52, 3) := by decide +kernel
theorem dX2_forgets_19 : decode cX2_forgets 19 = .ok (.aload_n 0, 1) := by decide +kernel
theorem dX2_forgets_20 : decode cX2_forgets 20 = .ok (.getfield 39, 3) := by decide +kernel
theorem dX2_forgets_23 : decode cX2_forgets 23 = .ok (.iload 4, 2) := by decide +kernel
theorem dX2_forgets_25 : decode cX2_forgets 25 = .ok (.iaload, 1) := by decide +kernel
theorem dX2_forgets_26 : decode cX2_forgets 26 = .ok (.ifCond .le 36, 3) := by decide +kernel
theorem dX2_forgets_29 : decode cX2_forgets 29 = .ok (.iload_n 2, 1) := by decide +kernel
theorem dX2_forgets_30 : decode cX2_forgets 30 = .ok (.ifCond .eq 13, 3) := by decide +kernel
theorem dX2_forgets_33 : decode cX2_forgets 33 = .ok (.aload_n 0, 1) := by decide +kernel
theorem dX2_forgets_34 : decode cX2_forgets 34 = .ok (.getfield 42, 3) := by decide +kernel
theorem dX2_forgets_37 : decode cX2_forgets 37 = .ok (.iload 4, 2) := by decide +kernel
theorem dX2_forgets_39 : decode cX2_forgets 39 = .ok (.baload, 1) := by decide +kernel
theorem dX2_forgets_40 : decode cX2_forgets 40 = .ok (.ifCond .eq 22, 3) := by decide +kernel
theorem dX2_forgets_43 : decode cX2_forgets 43 = .ok (.aload_n 0, 1) := by decide +kernel
theorem dX2_forgets_44 : decode cX2_forgets 44 = .ok (.getfield 39, 3) := by decide +kernel
theorem dX2_forgets_47 : decode cX2_forgets 47 = .ok (.iload 4, 2) := by decide +kernel
theorem dX2_forgets_49 : decode cX2_forgets 49 = .ok (.iconst 0, 1) := by decide +kernel
theorem dX2_forgets_50 : decode cX2_forgets 50 = .ok (.iastore, 1) := by decide +kernel
theorem dX2_forgets_51 : decode cX2_forgets 51 = .ok (.aload_n 0, 1) := by decide +kernel
theorem dX2_forgets_52 : decode cX2_forgets 52 = .ok (.getfield 42, 3) := by decide +kernel
theorem dX2_forgets_55 : decode cX2_forgets 55 = .ok (.iload 4, 2) := by decide +kernel
theorem dX2_forgets_57 : decode cX2_forgets 57 = .ok (.iconst 0, 1) := by decide +kernel
theorem dX2_forgets_58 : decode cX2_forgets 58 = .ok (.bastore, 1) := by decide +kernel
theorem dX2_forgets_59 : decode cX2_forgets 59 = .ok (.iinc 3 1, 3) := by decide +kernel
theorem dX2_forgets_62 : decode cX2_forgets 62 = .ok (.iinc 4 1, 3) := by decide +kernel
theorem dX2_forgets_65 : decode cX2_forgets 65 = .ok (.goto (-57), 3) := by decide +kernel
theorem dX2_forgets_68 : decode cX2_forgets 68 = .ok (.iload_n 3, 1) := by decide +kernel
theorem dX2_forgets_69 : decode cX2_forgets 69 = .ok (.ireturn, 1) := by decide +kernel
theorem dX2_waiting_0 : decode cX2_waiting 0 = .ok (.iconst 0, 1) := by decide +kernel
theorem dX2_waiting_1 : decode cX2_waiting 1 = .ok (.istore_n 1, 1) := by decide +kernel
theorem dX2_waiting_2 : decode cX2_waiting 2 = .ok (.iconst 0, 1) := by decide +kernel
theorem dX2_waiting_3 : decode cX2_waiting 3 = .ok (.istore_n 2, 1) := by decide +kernel
theorem dX2_waiting_4 : decode cX2_waiting 4 = .ok (.iload_n 2, 1) := by decide +kernel
theorem dX2_waiting_5 : decode cX2_waiting 5 = .ok (.aload_n 0, 1) := by decide +kernel
theorem dX2_waiting_6 : decode cX2_waiting 6 = .ok (.getfield 55, 3) := by decide +kernel
theorem dX2_waiting_9 : decode cX2_waiting 9 = .ok (.if_icmp .ge 72, 3) := by decide +kernel
theorem dX2_waiting_12 : decode cX2_waiting 12 = .ok (.aload_n 0, 1) := by decide +kernel
theorem dX2_waiting_13 : decode cX2_waiting 13 = .ok (.getfield 19, 3) := by decide +kernel
theorem dX2_waiting_16 : decode cX2_waiting 16 = .ok (.iload_n 2, 1) := by decide +kernel
theorem dX2_waiting_17 : decode cX2_waiting 17 = .ok (.baload, 1) := by decide +kernel
theorem dX2_waiting_18 : decode cX2_waiting 18 = .ok (.ifCond .eq 41, 3) := by decide +kernel
theorem dX2_waiting_21 : decode cX2_waiting 21 = .ok (.aload_n 0, 1) := by decide +kernel
theorem dX2_waiting_22 : decode cX2_waiting 22 = .ok (.getfield 23, 3) := by decide +kernel
theorem dX2_waiting_25 : decode cX2_waiting 25 = .ok (.iload_n 2, 1) := by decide +kernel
theorem dX2_waiting_26 : decode cX2_waiting 26 = .ok (.iaload, 1) := by decide +kernel
theorem dX2_waiting_27 : decode cX2_waiting 27 = .ok (.iconst 2, 1) := by decide +kernel
theorem dX2_waiting_28 : decode cX2_waiting 28 = .ok (.if_icmp .eq 31, 3) := by decide +kernel
theorem dX2_waiting_31 : decode cX2_waiting 31 = .ok (.aload_n 0, 1) := by decide +kernel
theorem dX2_waiting_32 : decode cX2_waiting 32 = .ok (.getfield 33, 3) := by decide +kernel
theorem dX2_waiting_35 : decode cX2_waiting 35 = .ok (.iconst 2, 1) := by decide +kernel
theorem dX2_waiting_36 : decode cX2_waiting 36 = .ok (.iload_n 2, 1) := by decide +kernel
theorem dX2_waiting_37 : decode cX2_waiting 37 = .ok (.imul, 1) := by decide +kernel
theorem dX2_waiting_38 : decode cX2_waiting 38 = .ok (.baload, 1) := by decide +kernel
theorem dX2_waiting_39 : decode cX2_waiting 39 = .ok (.ifCond .eq 16, 3) := by decide +kernel
theorem dX2_waiting_42 : decode cX2_waiting 42 = .ok (.aload_n 0, 1) := by decide +kernel
theorem dX2_waiting_43 : decode cX2_waiting 43 = .ok (.getfield 33, 3) := by decide +kernel
theorem dX2_waiting_46 : decode cX2_waiting 46 = .ok (.iconst 2, 1) := by decide +kernel
theorem dX2_waiting_47 : decode cX2_waiting 47 = .ok (.iload_n 2, 1) := by decide +kernel
theorem dX2_waiting_48 : decode cX2_waiting 48 = .ok (.imul, 1) := by decide +kernel
theorem dX2_waiting_49 : decode cX2_waiting 49 = .ok (.iconst 1, 1) := by decide +kernel
theorem dX2_waiting_50 : decode cX2_waiting 50 = .ok (.iadd, 1) := by decide +kernel
theorem dX2_waiting_51 : decode cX2_waiting 51 = .ok (.baload, 1) := by decide +kernel
theorem dX2_waiting_52 : decode cX2_waiting 52 = .ok (.ifCond .ne 7, 3) := by decide +kernel
theorem dX2_waiting_55 : decode cX2_waiting 55 = .ok (.iconst 1, 1) := by decide +kernel
theorem dX2_waiting_56 : decode cX2_waiting 56 = .ok (.goto 4, 3) := by decide +kernel
theorem dX2_waiting_59 : decode cX2_waiting 59 = .ok (.iconst 0, 1) := by decide +kernel
theorem dX2_waiting_60 : decode cX2_waiting 60 = .ok (.istore_n 3, 1) := by decide +kernel
theorem dX2_waiting_61 : decode cX2_waiting 61 = .ok (.iload_n 1, 1) := by decide +kernel
theorem dX2_waiting_62 : decode cX2_waiting 62 = .ok (.iload_n 3, 1) := by decide +kernel
theorem dX2_waiting_63 : decode cX2_waiting 63 = .ok (.ifCond .eq 9, 3) := by decide +kernel
theorem dX2_waiting_66 : decode cX2_waiting 66 = .ok (.iconst 1, 1) := by decide +kernel
theorem dX2_waiting_67 : decode cX2_waiting 67 = .ok (.iload_n 2, 1) := by decide +kernel
theorem dX2_waiting_68 : decode cX2_waiting 68 = .ok (.ishl, 1) := by decide +kernel
theorem dX2_waiting_69 : decode cX2_waiting 69 = .ok (.goto 4, 3) := by decide +kernel
theorem dX2_waiting_72 : decode cX2_waiting 72 = .ok (.iconst 0, 1) := by decide +kernel
theorem dX2_waiting_73 : decode cX2_waiting 73 = .ok (.ior, 1) := by decide +kernel
theorem dX2_waiting_74 : decode cX2_waiting 74 = .ok (.istore_n 1, 1) := by decide +kernel
theorem dX2_waiting_75 : decode cX2_waiting 75 = .ok (.iinc 2 1, 3) := by decide +kernel
theorem dX2_waiting_78 : decode cX2_waiting 78 = .ok (.goto (-74), 3) := by decide +kernel
theorem dX2_waiting_81 : decode cX2_waiting 81 = .ok (.iload_n 1, 1) := by decide +kernel
theorem dX2_waiting_82 : decode cX2_waiting 82 = .ok (.ireturn, 1) := by decide +kernel
set_option maxRecDepth 20000 in
theorem ggX2_checksDeferral_X2_waiting : GoodIn wsX2_checksDeferral wsX2_waiting := goodIn_r _ [10, 3, 11, 4, 12, 38, 39, 40, 41, 42, 43, 44, 45, 46, 47, 48, 49, 50, 51, 52, 53] (by decide +kernel) (by decide +kernel)
set_option maxRecDepth 20000 in
theorem gX2_checksDeferral_X2_waiting : GoodIn wsX2_checksDeferral (wsV RX2 74 RX2 yX2_waiting wsX2_waiting) := goodIn_app (goodIn_of _ (by decide +kernel)) ggX2_checksDeferral_X2_waiting
set_option maxRecDepth 20000 in
theorem ggX2_checksDeferral_X2_selectsAll : GoodIn wsX2_checksDeferral wsX2_selectsAll := goodIn_r _ [16, 17, 18, 19, 9, 20, 21, 22, 3, 4, 23, 24, 25, 26, 27, 28, 29, 30, 31, 32, 33, 38, 39, 40, 41, 42, 43, 44, 45, 46, 47, 48, 49, 50, 51, 52, 53] (by decide +kernel) (by decide +kernel)
set_option maxRecDepth 20000 in
theorem gX2_checksDeferral_X2_selectsAll : GoodIn wsX2_checksDeferral (wsV RX2 81 RX2 yX2_selectsAll wsX2_selectsAll) := goodIn_app (goodIn_of _ (by decide +kernel)) ggX2_checksDeferral_X2_selectsAll
set_option maxRecDepth 20000 in
theorem ggX2_checksDeferral_X2_forgets : GoodIn wsX2_checksDeferral wsX2_forgets := goodIn_r _ [37, 32, 33, 38, 39, 40, 41, 42, 43, 44, 45, 46, 47, 48, 49, 50, 51, 52, 53] (by decide +kernel) (by decide +kernel)
set_option maxRecDepth 20000 in
theorem gX2_checksDeferral_X2_forgets : GoodIn wsX2_checksDeferral (wsV RX2 84 RX2 yX2_forgets wsX2_forgets) := goodIn_app (goodIn_of _ (by decide +kernel)) ggX2_checksDeferral_X2_forgets
theorem dX2_checksDeferral_0 : decode cX2_checksDeferral 0 = .ok (.aload_n 0, 1) := by decide +kernel
theorem dX2_checksDeferral_1 : decode cX2_checksDeferral 1 = .ok (.getfield 70, 3) := by decide +kernel
theorem dX2_checksDeferral_4 : decode cX2_checksDeferral 4 = .ok (.ifCond .eq 17, 3) := by decide +kernel
theorem dX2_checksDeferral_7 : decode cX2_checksDeferral 7 = .ok (.aload_n 0, 1) := by decide +kernel
theorem dX2_checksDeferral_8 : decode cX2_checksDeferral 8 = .ok (.invokevirtual 74, 3) := by decide +kernel
theorem dX2_checksDeferral_11 : decode cX2_checksDeferral 11 = .ok (.ifCond .eq 11, 3) := by decide +kernel
theorem dX2_checksDeferral_14 : decode cX2_checksDeferral 14 = .ok (.aload_n 0, 1) := by decide +kernel
theorem dX2_checksDeferral_15 : decode cX2_checksDeferral 15 = .ok (.getfield 78, 3) := by decide +kernel
theorem dX2_checksDeferral_18 : decode cX2_checksDeferral 18 = .ok (.ifCond .le 4, 3) := by decide +kernel
theorem dX2_checksDeferral_21 : decode cX2_checksDeferral 21 = .ok (.return_, 1) := by decide +kernel
theorem dX2_checksDeferral_22 : decode cX2_checksDeferral 22 = .ok (.aload_n 0, 1) := by decide +kernel
theorem dX2_checksDeferral_23 : decode cX2_checksDeferral 23 = .ok (.iconst 0, 1) := by decide +kernel
theorem dX2_checksDeferral_24 : decode cX2_checksDeferral 24 = .ok (.putfield 70, 3) := by decide +kernel
theorem dX2_checksDeferral_27 : decode cX2_checksDeferral 27 = .ok (.aload_n 0, 1) := by decide +kernel
theorem dX2_checksDeferral_28 : decode cX2_checksDeferral 28 = .ok (.iconst 0, 1) := by decide +kernel
theorem dX2_checksDeferral_29 : decode cX2_checksDeferral 29 = .ok (.putfield 78, 3) := by decide +kernel
theorem dX2_checksDeferral_32 : decode cX2_checksDeferral 32 = .ok (.aload_n 0, 1) := by decide +kernel
theorem dX2_checksDeferral_33 : decode cX2_checksDeferral 33 = .ok (.invokevirtual 81, 3) := by decide +kernel
theorem dX2_checksDeferral_36 : decode cX2_checksDeferral 36 = .ok (.iconst 0, 1) := by decide +kernel
theorem dX2_checksDeferral_37 : decode cX2_checksDeferral 37 = .ok (.istore_n 1, 1) := by decide +kernel
theorem dX2_checksDeferral_38 : decode cX2_checksDeferral 38 = .ok (.iload_n 1, 1) := by decide +kernel
theorem dX2_checksDeferral_39 : decode cX2_checksDeferral 39 = .ok (.aload_n 0, 1) := by decide +kernel
theorem dX2_checksDeferral_40 : decode cX2_checksDeferral 40 = .ok (.getfield 55, 3) := by decide +kernel
theorem dX2_checksDeferral_43 : decode cX2_checksDeferral 43 = .ok (.if_icmp .ge 32, 3) := by decide +kernel
theorem dX2_checksDeferral_46 : decode cX2_checksDeferral 46 = .ok (.aload_n 0, 1) := by decide +kernel
theorem dX2_checksDeferral_47 : decode cX2_checksDeferral 47 = .ok (.getfield 23, 3) := by decide +kernel
theorem dX2_checksDeferral_50 : decode cX2_checksDeferral 50 = .ok (.iload_n 1, 1) := by decide +kernel
theorem dX2_checksDeferral_51 : decode cX2_checksDeferral 51 = .ok (.iaload, 1) := by decide +kernel
theorem dX2_checksDeferral_52 : decode cX2_checksDeferral 52 = .ok (.ifCond .ne 17, 3) := by decide +kernel
theorem dX2_checksDeferral_55 : decode cX2_checksDeferral 55 = .ok (.aload_n 0, 1) := by decide +kernel
theorem dX2_checksDeferral_56 : decode cX2_checksDeferral 56 = .ok (.iload_n 1, 1) := by decide +kernel
theorem dX2_checksDeferral_57 : decode cX2_checksDeferral 57 = .ok (.iconst 1, 1) := by decide +kernel
theorem dX2_checksDeferral_58 : decode cX2_checksDeferral 58 = .ok (.invokevirtual 84, 3) := by decide +kernel
theorem dX2_checksDeferral_61 : decode cX2_checksDeferral 61 = .ok (.pop, 1) := by decide +kernel
theorem dX2_checksDeferral_62 : decode cX2_checksDeferral 62 = .ok (.aload_n 0, 1) := by decide +kernel
theorem dX2_checksDeferral_63 : decode cX2_checksDeferral 63 = .ok (.getfield 30, 3) := by decide +kernel
theorem dX2_checksDeferral_66 : decode cX2_checksDeferral 66 = .ok (.iload_n 1, 1) := by decide +kernel
theorem dX2_checksDeferral_67 : decode cX2_checksDeferral 67 = .ok (.iconst 0, 1) := by decide +kernel
theorem dX2_checksDeferral_68 : decode cX2_checksDeferral 68 = .ok (.iastore, 1) := by decide +kernel
theorem dX2_checksDeferral_69 : decode cX2_checksDeferral 69 = .ok (.iinc 1 1, 3) := by decide +kernel
theorem dX2_checksDeferral_72 : decode cX2_checksDeferral 72 = .ok (.goto (-34), 3) := by decide +kernel
theorem dX2_checksDeferral_75 : decode cX2_checksDeferral 75 = .ok (.return_, 1) := by decide +kernel
set_option maxRecDepth 20000 in
theorem ggX2_addPeer_X2_selectsAll : GoodIn wsX2_addPeer wsX2_selectsAll := goodIn_r _ [9, 10, 11, 12, 8, 13, 14, 15, 1, 3, 16, 17, 18, 19, 20, 21, 22, 23, 24, 25, 26, 27, 28, 29, 30, 31, 32, 33, 34, 35, 36, 37, 38, 39, 40, 41, 42] (by decide +kernel) (by decide +kernel)
set_option maxRecDepth 20000 in
theorem gX2_addPeer_X2_selectsAll : GoodIn wsX2_addPeer (wsV RX2 81 RX2 yX2_selectsAll wsX2_selectsAll) := goodIn_app (goodIn_of _ (by decide +kernel)) ggX2_addPeer_X2_selectsAll
theorem dX2_addPeer_0 : decode cX2_addPeer 0 = .ok (.aload_n 0, 1) := by decide +kernel
theorem dX2_addPeer_1 : decode cX2_addPeer 1 = .ok (.getfield 55, 3) := by decide +kernel
theorem dX2_addPeer_4 : decode cX2_addPeer 4 = .ok (.iconst 5, 1) := by decide +kernel
theorem dX2_addPeer_5 : decode cX2_addPeer 5 = .ok (.if_icmp .ne 6, 3) := by decide +kernel
theorem dX2_addPeer_8 : decode cX2_addPeer 8 = .ok (.bipush (-5), 2) := by decide +kernel
theorem dX2_addPeer_10 : decode cX2_addPeer 10 = .ok (.ireturn, 1) := by decide +kernel
theorem dX2_addPeer_11 : decode cX2_addPeer 11 = .ok (.aload_n 0, 1) := by decide +kernel
theorem dX2_addPeer_12 : decode cX2_addPeer 12 = .ok (.getfield 19, 3) := by decide +kernel
theorem dX2_addPeer_15 : decode cX2_addPeer 15 = .ok (.aload_n 0, 1) := by decide +kernel
theorem dX2_addPeer_16 : decode cX2_addPeer 16 = .ok (.getfield 55, 3) := by decide +kernel
theorem dX2_addPeer_19 : decode cX2_addPeer 19 = .ok (.iload_n 1, 1) := by decide +kernel
theorem dX2_addPeer_20 : decode cX2_addPeer 20 = .ok (.bastore, 1) := by decide +kernel
theorem dX2_addPeer_21 : decode cX2_addPeer 21 = .ok (.aload_n 0, 1) := by decide +kernel
theorem dX2_addPeer_22 : decode cX2_addPeer 22 = .ok (.getfield 23, 3) := by decide +kernel
theorem dX2_addPeer_25 : decode cX2_addPeer 25 = .ok (.aload_n 0, 1) := by decide +kernel
theorem dX2_addPeer_26 : decode cX2_addPeer 26 = .ok (.getfield 55, 3) := by decide +kernel
theorem dX2_addPeer_29 : decode cX2_addPeer 29 = .ok (.iconst 0, 1) := by decide +kernel
theorem dX2_addPeer_30 : decode cX2_addPeer 30 = .ok (.iastore, 1) := by decide +kernel
theorem dX2_addPeer_31 : decode cX2_addPeer 31 = .ok (.aload_n 0, 1) := by decide +kernel
theorem dX2_addPeer_32 : decode cX2_addPeer 32 = .ok (.dup, 1) := by decide +kernel
theorem dX2_addPeer_33 : decode cX2_addPeer 33 = .ok (.getfield 55, 3) := by decide +kernel
theorem dX2_addPeer_36 : decode cX2_addPeer 36 = .ok (.iconst 1, 1) := by decide +kernel
theorem dX2_addPeer_37 : decode cX2_addPeer 37 = .ok (.iadd, 1) := by decide +kernel
theorem dX2_addPeer_38 : decode cX2_addPeer 38 = .ok (.putfield 55, 3) := by decide +kernel
theorem dX2_addPeer_41 : decode cX2_addPeer 41 = .ok (.aload_n 0, 1) := by decide +kernel
theorem dX2_addPeer_42 : decode cX2_addPeer 42 = .ok (.getfield 70, 3) := by decide +kernel
theorem dX2_addPeer_45 : decode cX2_addPeer 45 = .ok (.ifCond .ne 7, 3) := by decide +kernel
theorem dX2_addPeer_48 : decode cX2_addPeer 48 = .ok (.aload_n 0, 1) := by decide +kernel
theorem dX2_addPeer_49 : decode cX2_addPeer 49 = .ok (.invokevirtual 81, 3) := by decide +kernel
theorem dX2_addPeer_52 : decode cX2_addPeer 52 = .ok (.aload_n 0, 1) := by decide +kernel
theorem dX2_addPeer_53 : decode cX2_addPeer 53 = .ok (.getfield 55, 3) := by decide +kernel
theorem dX2_addPeer_56 : decode cX2_addPeer 56 = .ok (.iconst 1, 1) := by decide +kernel
theorem dX2_addPeer_57 : decode cX2_addPeer 57 = .ok (.isub, 1) := by decide +kernel
theorem dX2_addPeer_58 : decode cX2_addPeer 58 = .ok (.ireturn, 1) := by decide +kernel
set_option maxRecDepth 20000 in
theorem ggX2_refused_X2_isPeer : GoodIn wsX2_refused wsX2_isPeer := goodIn_r _ [5, 6, 7, 8, 4, 9, 13, 14, 15, 16, 17, 18, 19, 20, 21, 22, 23, 24, 25, 26, 27, 28] (by decide +kernel) (by decide +kernel)
set_option maxRecDepth 20000 in
theorem gX2_refused_X2_isPeer : GoodIn wsX2_refused (wsV RX2 88 RX2 yX2_isPeer wsX2_isPeer) := goodIn_app (goodIn_of _ (by decide +kernel)) ggX2_refused_X2_isPeer
set_option maxRecDepth 20000 in
theorem ggX2_refused_X2_isRoute : GoodIn wsX2_refused wsX2_isRoute := goodIn_r _ [12, 7, 8, 4, 9] (by decide +kernel) (by decide +kernel)
set_option maxRecDepth 20000 in
theorem gX2_refused_X2_isRoute : GoodIn wsX2_refused (va_wsS RX2 92 yX2_isRoute wsX2_isRoute) := goodIn_app (goodIn_of _ (by decide +kernel)) ggX2_refused_X2_isRoute
theorem dX2_refused_0 : decode cX2_refused 0 = .ok (.aload_n 0, 1) := by decide +kernel
theorem dX2_refused_1 : decode cX2_refused 1 = .ok (.iload_n 1, 1) := by decide +kernel
theorem dX2_refused_2 : decode cX2_refused 2 = .ok (.invokevirtual 88, 3) := by decide +kernel
theorem dX2_refused_5 : decode cX2_refused 5 = .ok (.ifCond .ne 7, 3) := by decide +kernel
theorem dX2_refused_8 : decode cX2_refused 8 = .ok (.iconst (-1), 1) := by decide +kernel
theorem dX2_refused_9 : decode cX2_refused 9 = .ok (.goto 17, 3) := by decide +kernel
theorem dX2_refused_12 : decode cX2_refused 12 = .ok (.iload_n 2, 1) := by decide +kernel
theorem dX2_refused_13 : decode cX2_refused 13 = .ok (.iload_n 3, 1) := by decide +kernel
theorem dX2_refused_14 : decode cX2_refused 14 = .ok (.invokestatic 92, 3) := by decide +kernel
theorem dX2_refused_17 : decode cX2_refused 17 = .ok (.ifCond .ne 8, 3) := by decide +kernel
theorem dX2_refused_20 : decode cX2_refused 20 = .ok (.bipush (-2), 2) := by decide +kernel
theorem dX2_refused_22 : decode cX2_refused 22 = .ok (.goto 4, 3) := by decide +kernel
theorem dX2_refused_25 : decode cX2_refused 25 = .ok (.iconst 0, 1) := by decide +kernel
theorem dX2_refused_26 : decode cX2_refused 26 = .ok (.ireturn, 1) := by decide +kernel
set_option maxRecDepth 20000 in
theorem ggX2_offers_X2_selects : GoodIn wsX2_offers wsX2_selects := goodIn_r _ [8, 9, 10, 11, 3, 12, 13, 14, 7, 15, 1, 16, 17, 18, 19, 20, 21, 22, 23, 24, 25, 26, 27, 28, 29, 30, 31, 32, 33, 34, 35, 36, 37] (by decide +kernel) (by decide +kernel)
set_option maxRecDepth 20000 in
theorem gX2_offers_X2_selects : GoodIn wsX2_offers (wsV RX2 66 RX2 yX2_selects wsX2_selects) := goodIn_app (goodIn_of _ (by decide +kernel)) ggX2_offers_X2_selects
theorem dX2_offers_0 : decode cX2_offers 0 = .ok (.aload_n 0, 1) := by decide +kernel
theorem dX2_offers_1 : decode cX2_offers 1 = .ok (.getfield 36, 3) := by decide +kernel
theorem dX2_offers_4 : decode cX2_offers 4 = .ok (.bipush 16, 2) := by decide +kernel
theorem dX2_offers_6 : decode cX2_offers 6 = .ok (.iload_n 1, 1) := by decide +kernel
theorem dX2_offers_7 : decode cX2_offers 7 = .ok (.imul, 1) := by decide +kernel
theorem dX2_offers_8 : decode cX2_offers 8 = .ok (.iload_n 2, 1) := by decide +kernel
theorem dX2_offers_9 : decode cX2_offers 9 = .ok (.iadd, 1) := by decide +kernel
theorem dX2_offers_10 : decode cX2_offers 10 = .ok (.iload_n 3, 1) := by decide +kernel
theorem dX2_offers_11 : decode cX2_offers 11 = .ok (.iastore, 1) := by decide +kernel
theorem dX2_offers_12 : decode cX2_offers 12 = .ok (.aload_n 0, 1) := by decide +kernel
theorem dX2_offers_13 : decode cX2_offers 13 = .ok (.getfield 70, 3) := by decide +kernel
theorem dX2_offers_16 : decode cX2_offers 16 = .ok (.ifCond .ne 17, 3) := by decide +kernel
theorem dX2_offers_19 : decode cX2_offers 19 = .ok (.aload_n 0, 1) := by decide +kernel
theorem dX2_offers_20 : decode cX2_offers 20 = .ok (.getfield 23, 3) := by decide +kernel
theorem dX2_offers_23 : decode cX2_offers 23 = .ok (.iload_n 1, 1) := by decide +kernel
theorem dX2_offers_24 : decode cX2_offers 24 = .ok (.iaload, 1) := by decide +kernel
theorem dX2_offers_25 : decode cX2_offers 25 = .ok (.ifCond .ne 8, 3) := by decide +kernel
theorem dX2_offers_28 : decode cX2_offers 28 = .ok (.aload_n 0, 1) := by decide +kernel
theorem dX2_offers_29 : decode cX2_offers 29 = .ok (.iload_n 2, 1) := by decide +kernel
theorem dX2_offers_30 : decode cX2_offers 30 = .ok (.invokevirtual 66, 3) := by decide +kernel
theorem dX2_offers_33 : decode cX2_offers 33 = .ok (.return_, 1) := by decide +kernel
set_option maxRecDepth 20000 in
theorem ggX2_announce_X2_refused : GoodIn wsX2_announce wsX2_refused := goodIn_r _ [6, 7, 8, 9, 5, 10, 11, 12, 13, 14, 15, 16, 17, 40, 41, 42, 43, 44, 45, 46, 47, 48, 49, 50, 51, 52, 53, 54, 55] (by decide +kernel) (by decide +kernel)
set_option maxRecDepth 20000 in
theorem gX2_announce_X2_refused : GoodIn wsX2_announce (wsV RX2 96 RX2 yX2_refused wsX2_refused) := goodIn_app (goodIn_of _ (by decide +kernel)) ggX2_announce_X2_refused
set_option maxRecDepth 20000 in
theorem ggX2_announce_X2_within : GoodIn wsX2_announce wsX2_within := goodIn_r _ [14] (by decide +kernel) (by decide +kernel)
set_option maxRecDepth 20000 in
theorem gX2_announce_X2_within : GoodIn wsX2_announce (va_wsS RX2 51 yX2_within wsX2_within) := goodIn_app (goodIn_of _ (by decide +kernel)) ggX2_announce_X2_within
set_option maxRecDepth 20000 in
theorem ggX2_announce_X2_offers : GoodIn wsX2_announce wsX2_offers := goodIn_r _ [21, 1, 22, 23, 24, 25, 26, 5, 27, 28, 29, 11, 30, 31, 32, 33, 34, 35, 36, 37, 38, 39, 40, 41, 42, 43, 44, 45, 46, 47, 48, 49, 50, 51, 52, 53, 54, 55] (by decide +kernel) (by decide +kernel)
set_option maxRecDepth 20000 in
theorem gX2_announce_X2_offers : GoodIn wsX2_announce (wsV RX2 100 RX2 yX2_offers wsX2_offers) := goodIn_app (goodIn_of _ (by decide +kernel)) ggX2_announce_X2_offers
theorem dX2_announce_0 : decode cX2_announce 0 = .ok (.aload_n 0, 1) := by decide +kernel
theorem dX2_announce_1 : decode cX2_announce 1 = .ok (.iload_n 1, 1) := by decide +kernel
theorem dX2_announce_2 : decode cX2_announce 2 = .ok (.iload_n 2, 1) := by decide +kernel
theorem dX2_announce_3 : decode cX2_announce 3 = .ok (.iload_n 3, 1) := by decide +kernel
theorem dX2_announce_4 : decode cX2_announce 4 = .ok (.invokevirtual 96, 3) := by decide +kernel
theorem dX2_announce_7 : decode cX2_announce 7 = .ok (.istore 5, 2) := by decide +kernel
theorem dX2_announce_9 : decode cX2_announce 9 = .ok (.iload 5, 2) := by decide +kernel
theorem dX2_announce_11 : decode cX2_announce 11 = .ok (.ifCond .eq 6, 3) := by decide +kernel
theorem dX2_announce_14 : decode cX2_announce 14 = .ok (.iload 5, 2) := by decide +kernel
theorem dX2_announce_16 : decode cX2_announce 16 = .ok (.ireturn, 1) := by decide +kernel
theorem dX2_announce_17 : decode cX2_announce 17 = .ok (.iload 4, 2) := by decide +kernel
theorem dX2_announce_19 : decode cX2_announce 19 = .ok (.iconst 1, 1) := by decide +kernel
theorem dX2_announce_20 : decode cX2_announce 20 = .ok (.bipush 20, 2) := by decide +kernel
theorem dX2_announce_22 : decode cX2_announce 22 = .ok (.invokestatic 51, 3) := by decide +kernel
theorem dX2_announce_25 : decode cX2_announce 25 = .ok (.ifCond .ne 6, 3) := by decide +kernel
theorem dX2_announce_28 : decode cX2_announce 28 = .ok (.bipush (-3), 2) := by decide +kernel
theorem dX2_announce_30 : decode cX2_announce 30 = .ok (.ireturn, 1) := by decide +kernel
theorem dX2_announce_31 : decode cX2_announce 31 = .ok (.aload_n 0, 1) := by decide +kernel
theorem dX2_announce_32 : decode cX2_announce 32 = .ok (.getfield 36, 3) := by decide +kernel
theorem dX2_announce_35 : decode cX2_announce 35 = .ok (.bipush 16, 2) := by decide +kernel
theorem dX2_announce_37 : decode cX2_announce 37 = .ok (.iload_n 1, 1) := by decide +kernel
theorem dX2_announce_38 : decode cX2_announce 38 = .ok (.imul, 1) := by decide +kernel
theorem dX2_announce_39 : decode cX2_announce 39 = .ok (.bipush 8, 2) := by decide +kernel
theorem dX2_announce_41 : decode cX2_announce 41 = .ok (.iload_n 2, 1) := by decide +kernel
theorem dX2_announce_42 : decode cX2_announce 42 = .ok (.imul, 1) := by decide +kernel
theorem dX2_announce_43 : decode cX2_announce 43 = .ok (.iadd, 1) := by decide +kernel
theorem dX2_announce_44 : decode cX2_announce 44 = .ok (.iload_n 3, 1) := by decide +kernel
theorem dX2_announce_45 : decode cX2_announce 45 = .ok (.iadd, 1) := by decide +kernel
theorem dX2_announce_46 : decode cX2_announce 46 = .ok (.iaload, 1) := by decide +kernel
theorem dX2_announce_47 : decode cX2_announce 47 = .ok (.istore 6, 2) := by decide +kernel
theorem dX2_announce_49 : decode cX2_announce 49 = .ok (.aload_n 0, 1) := by decide +kernel
theorem dX2_announce_50 : decode cX2_announce 50 = .ok (.iload_n 1, 1) := by decide +kernel
theorem dX2_announce_51 : decode cX2_announce 51 = .ok (.bipush 8, 2) := by decide +kernel
theorem dX2_announce_53 : decode cX2_announce 53 = .ok (.iload_n 2, 1) := by decide +kernel
theorem dX2_announce_54 : decode cX2_announce 54 = .ok (.imul, 1) := by decide +kernel
theorem dX2_announce_55 : decode cX2_announce 55 = .ok (.iload_n 3, 1) := by decide +kernel
theorem dX2_announce_56 : decode cX2_announce 56 = .ok (.iadd, 1) := by decide +kernel
theorem dX2_announce_57 : decode cX2_announce 57 = .ok (.iload 4, 2) := by decide +kernel
theorem dX2_announce_59 : decode cX2_announce 59 = .ok (.invokevirtual 100, 3) := by decide +kernel
theorem dX2_announce_62 : decode cX2_announce 62 = .ok (.iload 6, 2) := by decide +kernel
theorem dX2_announce_64 : decode cX2_announce 64 = .ok (.ireturn, 1) := by decide +kernel
set_option maxRecDepth 20000 in
theorem ggX2_withdraw_X2_refused : GoodIn wsX2_withdraw wsX2_refused := goodIn_r _ [6, 7, 8, 9, 5, 10, 11, 12, 13, 14, 15, 16, 17, 40, 41, 42, 43, 44, 45, 46, 47, 48, 49, 50, 51, 52, 53, 54, 55] (by decide +kernel) (by decide +kernel)
set_option maxRecDepth 20000 in
theorem gX2_withdraw_X2_refused : GoodIn wsX2_withdraw (wsV RX2 96 RX2 yX2_refused wsX2_refused) := goodIn_app (goodIn_of _ (by decide +kernel)) ggX2_withdraw_X2_refused
set_option maxRecDepth 20000 in
theorem ggX2_withdraw_X2_offers : GoodIn wsX2_withdraw wsX2_offers := goodIn_r _ [21, 1, 22, 23, 24, 25, 26, 5, 27, 28, 29, 11, 30, 31, 32, 33, 34, 35, 36, 37, 38, 39, 40, 41, 42, 43, 44, 45, 46, 47, 48, 49, 50, 51, 52, 53, 54, 55] (by decide +kernel) (by decide +kernel)
set_option maxRecDepth 20000 in
theorem gX2_withdraw_X2_offers : GoodIn wsX2_withdraw (wsV RX2 100 RX2 yX2_offers wsX2_offers) := goodIn_app (goodIn_of _ (by decide +kernel)) ggX2_withdraw_X2_offers
theorem dX2_withdraw_0 : decode cX2_withdraw 0 = .ok (.aload_n 0, 1) := by decide +kernel
theorem dX2_withdraw_1 : decode cX2_withdraw 1 = .ok (.iload_n 1, 1) := by decide +kernel
theorem dX2_withdraw_2 : decode cX2_withdraw 2 = .ok (.iload_n 2, 1) := by decide +kernel
theorem dX2_withdraw_3 : decode cX2_withdraw 3 = .ok (.iload_n 3, 1) := by decide +kernel
theorem dX2_withdraw_4 : decode cX2_withdraw 4 = .ok (.invokevirtual 96, 3) := by decide +kernel
theorem dX2_withdraw_7 : decode cX2_withdraw 7 = .ok (.istore 4, 2) := by decide +kernel
theorem dX2_withdraw_9 : decode cX2_withdraw 9 = .ok (.iload 4, 2) := by decide +kernel
theorem dX2_withdraw_11 : decode cX2_withdraw 11 = .ok (.ifCond .eq 6, 3) := by decide +kernel
theorem dX2_withdraw_14 : decode cX2_withdraw 14 = .ok (.iload 4, 2) := by decide +kernel
theorem dX2_withdraw_16 : decode cX2_withdraw 16 = .ok (.ireturn, 1) := by decide +kernel
theorem dX2_withdraw_17 : decode cX2_withdraw 17 = .ok (.aload_n 0, 1) := by decide +kernel
theorem dX2_withdraw_18 : decode cX2_withdraw 18 = .ok (.getfield 36, 3) := by decide +kernel
theorem dX2_withdraw_21 : decode cX2_withdraw 21 = .ok (.bipush 16, 2) := by decide +kernel
theorem dX2_withdraw_23 : decode cX2_withdraw 23 = .ok (.iload_n 1, 1) := by decide +kernel
theorem dX2_withdraw_24 : decode cX2_withdraw 24 = .ok (.imul, 1) := by decide +kernel
theorem dX2_withdraw_25 : decode cX2_withdraw 25 = .ok (.bipush 8, 2) := by decide +kernel
theorem dX2_withdraw_27 : decode cX2_withdraw 27 = .ok (.iload_n 2, 1) := by decide +kernel
theorem dX2_withdraw_28 : decode cX2_withdraw 28 = .ok (.imul, 1) := by decide +kernel
theorem dX2_withdraw_29 : decode cX2_withdraw 29 = .ok (.iadd, 1) := by decide +kernel
theorem dX2_withdraw_30 : decode cX2_withdraw 30 = .ok (.iload_n 3, 1) := by decide +kernel
theorem dX2_withdraw_31 : decode cX2_withdraw 31 = .ok (.iadd, 1) := by decide +kernel
theorem dX2_withdraw_32 : decode cX2_withdraw 32 = .ok (.iaload, 1) := by decide +kernel
theorem dX2_withdraw_33 : decode cX2_withdraw 33 = .ok (.istore 5, 2) := by decide +kernel
theorem dX2_withdraw_35 : decode cX2_withdraw 35 = .ok (.iload 5, 2) := by decide +kernel
theorem dX2_withdraw_37 : decode cX2_withdraw 37 = .ok (.ifCond .ne 6, 3) := by decide +kernel
theorem dX2_withdraw_40 : decode cX2_withdraw 40 = .ok (.bipush (-6), 2) := by decide +kernel
theorem dX2_withdraw_42 : decode cX2_withdraw 42 = .ok (.ireturn, 1) := by decide +kernel
theorem dX2_withdraw_43 : decode cX2_withdraw 43 = .ok (.aload_n 0, 1) := by decide +kernel
theorem dX2_withdraw_44 : decode cX2_withdraw 44 = .ok (.iload_n 1, 1) := by decide +kernel
theorem dX2_withdraw_45 : decode cX2_withdraw 45 = .ok (.bipush 8, 2) := by decide +kernel
theorem dX2_withdraw_47 : decode cX2_withdraw 47 = .ok (.iload_n 2, 1) := by decide +kernel
theorem dX2_withdraw_48 : decode cX2_withdraw 48 = .ok (.imul, 1) := by decide +kernel
theorem dX2_withdraw_49 : decode cX2_withdraw 49 = .ok (.iload_n 3, 1) := by decide +kernel
theorem dX2_withdraw_50 : decode cX2_withdraw 50 = .ok (.iadd, 1) := by decide +kernel
theorem dX2_withdraw_51 : decode cX2_withdraw 51 = .ok (.iconst 0, 1) := by decide +kernel
theorem dX2_withdraw_52 : decode cX2_withdraw 52 = .ok (.invokevirtual 100, 3) := by decide +kernel
theorem dX2_withdraw_55 : decode cX2_withdraw 55 = .ok (.iload 5, 2) := by decide +kernel
theorem dX2_withdraw_57 : decode cX2_withdraw 57 = .ok (.ireturn, 1) := by decide +kernel
set_option maxRecDepth 20000 in
theorem ggX2_losesSession_X2_forgets : GoodIn wsX2_losesSession wsX2_forgets := goodIn_r _ [12, 7, 6, 13, 14, 15, 16, 17, 18, 19, 20, 21, 22, 23, 24, 25, 26, 27, 28] (by decide +kernel) (by decide +kernel)
set_option maxRecDepth 20000 in
theorem gX2_losesSession_X2_forgets : GoodIn wsX2_losesSession (wsV RX2 84 RX2 yX2_forgets wsX2_forgets) := goodIn_app (goodIn_of _ (by decide +kernel)) ggX2_losesSession_X2_forgets
theorem dX2_losesSession_0 : decode cX2_losesSession 0 = .ok (.aload_n 0, 1) := by decide +kernel
theorem dX2_losesSession_1 : decode cX2_losesSession 1 = .ok (.getfield 30, 3) := by decide +kernel
theorem dX2_losesSession_4 : decode cX2_losesSession 4 = .ok (.iload_n 1, 1) := by decide +kernel
theorem dX2_losesSession_5 : decode cX2_losesSession 5 = .ok (.iconst 0, 1) := by decide +kernel
theorem dX2_losesSession_6 : decode cX2_losesSession 6 = .ok (.iastore, 1) := by decide +kernel
theorem dX2_losesSession_7 : decode cX2_losesSession 7 = .ok (.aload_n 0, 1) := by decide +kernel
theorem dX2_losesSession_8 : decode cX2_losesSession 8 = .ok (.getfield 19, 3) := by decide +kernel
theorem dX2_losesSession_11 : decode cX2_losesSession 11 = .ok (.iload_n 1, 1) := by decide +kernel
theorem dX2_losesSession_12 : decode cX2_losesSession 12 = .ok (.baload, 1) := by decide +kernel
theorem dX2_losesSession_13 : decode cX2_losesSession 13 = .ok (.ifCond .ne 18, 3) := by decide +kernel
theorem dX2_losesSession_16 : decode cX2_losesSession 16 = .ok (.aload_n 0, 1) := by decide +kernel
theorem dX2_losesSession_17 : decode cX2_losesSession 17 = .ok (.getfield 23, 3) := by decide +kernel
theorem dX2_losesSession_20 : decode cX2_losesSession 20 = .ok (.iload_n 1, 1) := by decide +kernel
theorem dX2_losesSession_21 : decode cX2_losesSession 21 = .ok (.iconst 2, 1) := by decide +kernel
theorem dX2_losesSession_22 : decode cX2_losesSession 22 = .ok (.iastore, 1) := by decide +kernel
theorem dX2_losesSession_23 : decode cX2_losesSession 23 = .ok (.aload_n 0, 1) := by decide +kernel
theorem dX2_losesSession_24 : decode cX2_losesSession 24 = .ok (.iload_n 1, 1) := by decide +kernel
theorem dX2_losesSession_25 : decode cX2_losesSession 25 = .ok (.iconst 0, 1) := by decide +kernel
theorem dX2_losesSession_26 : decode cX2_losesSession 26 = .ok (.invokevirtual 84, 3) := by decide +kernel
theorem dX2_losesSession_29 : decode cX2_losesSession 29 = .ok (.pop, 1) := by decide +kernel
theorem dX2_losesSession_30 : decode cX2_losesSession 30 = .ok (.return_, 1) := by decide +kernel
theorem dX2_losesSession_31 : decode cX2_losesSession 31 = .ok (.aload_n 0, 1) := by decide +kernel
theorem dX2_losesSession_32 : decode cX2_losesSession 32 = .ok (.getfield 23, 3) := by decide +kernel
theorem dX2_losesSession_35 : decode cX2_losesSession 35 = .ok (.iload_n 1, 1) := by decide +kernel
theorem dX2_losesSession_36 : decode cX2_losesSession 36 = .ok (.iconst 1, 1) := by decide +kernel
theorem dX2_losesSession_37 : decode cX2_losesSession 37 = .ok (.iastore, 1) := by decide +kernel
theorem dX2_losesSession_38 : decode cX2_losesSession 38 = .ok (.aload_n 0, 1) := by decide +kernel
theorem dX2_losesSession_39 : decode cX2_losesSession 39 = .ok (.getfield 27, 3) := by decide +kernel
theorem dX2_losesSession_42 : decode cX2_losesSession 42 = .ok (.iload_n 1, 1) := by decide +kernel
theorem dX2_losesSession_43 : decode cX2_losesSession 43 = .ok (.aload_n 0, 1) := by decide +kernel
theorem dX2_losesSession_44 : decode cX2_losesSession 44 = .ok (.getfield 7, 3) := by decide +kernel
theorem dX2_losesSession_47 : decode cX2_losesSession 47 = .ok (.iastore, 1) := by decide +kernel
theorem dX2_losesSession_48 : decode cX2_losesSession 48 = .ok (.aload_n 0, 1) := by decide +kernel
theorem dX2_losesSession_49 : decode cX2_losesSession 49 = .ok (.iload_n 1, 1) := by decide +kernel
theorem dX2_losesSession_50 : decode cX2_losesSession 50 = .ok (.iconst 1, 1) := by decide +kernel
theorem dX2_losesSession_51 : decode cX2_losesSession 51 = .ok (.invokevirtual 84, 3) := by decide +kernel
theorem dX2_losesSession_54 : decode cX2_losesSession 54 = .ok (.pop, 1) := by decide +kernel
theorem dX2_losesSession_55 : decode cX2_losesSession 55 = .ok (.bipush 16, 2) := by decide +kernel
theorem dX2_losesSession_57 : decode cX2_losesSession 57 = .ok (.iload_n 1, 1) := by decide +kernel
theorem dX2_losesSession_58 : decode cX2_losesSession 58 = .ok (.imul, 1) := by decide +kernel
theorem dX2_losesSession_59 : decode cX2_losesSession 59 = .ok (.istore_n 2, 1) := by decide +kernel
theorem dX2_losesSession_60 : decode cX2_losesSession 60 = .ok (.iload_n 2, 1) := by decide +kernel
theorem dX2_losesSession_61 : decode cX2_losesSession 61 = .ok (.bipush 16, 2) := by decide +kernel
theorem dX2_losesSession_63 : decode cX2_losesSession 63 = .ok (.iload_n 1, 1) := by decide +kernel
theorem dX2_losesSession_64 : decode cX2_losesSession 64 = .ok (.iconst 1, 1) := by decide +kernel
theorem dX2_losesSession_65 : decode cX2_losesSession 65 = .ok (.iadd, 1) := by decide +kernel
theorem dX2_losesSession_66 : decode cX2_losesSession 66 = .ok (.imul, 1) := by decide +kernel
theorem dX2_losesSession_67 : decode cX2_losesSession 67 = .ok (.if_icmp .ge 29, 3) := by decide +kernel
theorem dX2_losesSession_70 : decode cX2_losesSession 70 = .ok (.aload_n 0, 1) := by decide +kernel
theorem dX2_losesSession_71 : decode cX2_losesSession 71 = .ok (.getfield 42, 3) := by decide +kernel
theorem dX2_losesSession_74 : decode cX2_losesSession 74 = .ok (.iload_n 2, 1) := by decide +kernel
theorem dX2_losesSession_75 : decode cX2_losesSession 75 = .ok (.aload_n 0, 1) := by decide +kernel
theorem dX2_losesSession_76 : decode cX2_losesSession 76 = .ok (.getfield 39, 3) := by decide +kernel
theorem dX2_losesSession_79 : decode cX2_losesSession 79 = .ok (.iload_n 2, 1) := by decide +kernel
theorem dX2_losesSession_80 : decode cX2_losesSession 80 = .ok (.iaload, 1) := by decide +kernel
theorem dX2_losesSession_81 : decode cX2_losesSession 81 = .ok (.ifCond .le 7, 3) := by decide +kernel
theorem dX2_losesSession_84 : decode cX2_losesSession 84 = .ok (.iconst 1, 1) := by decide +kernel
theorem dX2_losesSession_85 : decode cX2_losesSession 85 = .ok (.goto 4, 3) := by decide +kernel
theorem dX2_losesSession_88 : decode cX2_losesSession 88 = .ok (.iconst 0, 1) := by decide +kernel
theorem dX2_losesSession_89 : decode cX2_losesSession 89 = .ok (.bastore, 1) := by decide +kernel
theorem dX2_losesSession_90 : decode cX2_losesSession 90 = .ok (.iinc 2 1, 3) := by decide +kernel
theorem dX2_losesSession_93 : decode cX2_losesSession 93 = .ok (.goto (-33), 3) := by decide +kernel
theorem dX2_losesSession_96 : decode cX2_losesSession 96 = .ok (.return_, 1) := by decide +kernel
set_option maxRecDepth 20000 in
theorem ggX2_restart_X2_losesSession : GoodIn wsX2_restart wsX2_losesSession := goodIn_r _ [13, 14, 15, 3, 16, 17, 18, 19, 20, 21, 22, 12, 23, 49, 50, 51, 52, 53, 54, 55, 56, 57, 58, 59, 60, 61, 62, 63, 64] (by decide +kernel) (by decide +kernel)
set_option maxRecDepth 20000 in
theorem gX2_restart_X2_losesSession : GoodIn wsX2_restart (wsV RX2 103 RX2 yX2_losesSession wsX2_losesSession) := goodIn_app (goodIn_of _ (by decide +kernel)) ggX2_restart_X2_losesSession
set_option maxRecDepth 20000 in
theorem ggX2_restart_X2_checksDeferral : GoodIn wsX2_restart wsX2_checksDeferral := goodIn_r _ [27, 6, 8, 1, 3, 14, 28, 29, 30, 12, 31, 15, 2, 32, 33, 34, 35, 36, 37, 38, 39, 4, 5, 40, 41, 42, 43, 44, 45, 46, 47, 48, 19, 18, 20, 21, 22, 23, 49, 50, 51, 52, 53, 54, 55, 56, 57, 58, 59, 60, 61, 62, 63, 64] (by decide +kernel) (by decide +kernel)
set_option maxRecDepth 20000 in
theorem gX2_restart_X2_checksDeferral : GoodIn wsX2_restart (wsV RX2 106 RX2 yX2_checksDeferral wsX2_checksDeferral) := goodIn_app (goodIn_of _ (by decide +kernel)) ggX2_restart_X2_checksDeferral
theorem dX2_restart_0 : decode cX2_restart 0 = .ok (.iconst 0, 1) := by decide +kernel
theorem dX2_restart_1 : decode cX2_restart 1 = .ok (.istore_n 2, 1) := by decide +kernel
theorem dX2_restart_2 : decode cX2_restart 2 = .ok (.iconst 0, 1) := by decide +kernel
theorem dX2_restart_3 : decode cX2_restart 3 = .ok (.istore_n 3, 1) := by decide +kernel
theorem dX2_restart_4 : decode cX2_restart 4 = .ok (.iload_n 3, 1) := by decide +kernel
theorem dX2_restart_5 : decode cX2_restart 5 = .ok (.aload_n 0, 1) := by decide +kernel
theorem dX2_restart_6 : decode cX2_restart 6 = .ok (.getfield 55, 3) := by decide +kernel
theorem dX2_restart_9 : decode cX2_restart 9 = .ok (.if_icmp .ge 46, 3) := by decide +kernel
theorem dX2_restart_12 : decode cX2_restart 12 = .ok (.aload_n 0, 1) := by decide +kernel
theorem dX2_restart_13 : decode cX2_restart 13 = .ok (.getfield 33, 3) := by decide +kernel
theorem dX2_restart_16 : decode cX2_restart 16 = .ok (.iconst 2, 1) := by decide +kernel
theorem dX2_restart_17 : decode cX2_restart 17 = .ok (.iload_n 3, 1) := by decide +kernel
theorem dX2_restart_18 : decode cX2_restart 18 = .ok (.imul, 1) := by decide +kernel
theorem dX2_restart_19 : decode cX2_restart 19 = .ok (.iconst 0, 1) := by decide +kernel
theorem dX2_restart_20 : decode cX2_restart 20 = .ok (.bastore, 1) := by decide +kernel
theorem dX2_restart_21 : decode cX2_restart 21 = .ok (.aload_n 0, 1) := by decide +kernel
theorem dX2_restart_22 : decode cX2_restart 22 = .ok (.getfield 33, 3) := by decide +kernel
theorem dX2_restart_25 : decode cX2_restart 25 = .ok (.iconst 2, 1) := by decide +kernel
theorem dX2_restart_26 : decode cX2_restart 26 = .ok (.iload_n 3, 1) := by decide +kernel
theorem dX2_restart_27 : decode cX2_restart 27 = .ok (.imul, 1) := by decide +kernel
theorem dX2_restart_28 : decode cX2_restart 28 = .ok (.iconst 1, 1) := by decide +kernel
theorem dX2_restart_29 : decode cX2_restart 29 = .ok (.iadd, 1) := by decide +kernel
theorem dX2_restart_30 : decode cX2_restart 30 = .ok (.iconst 0, 1) := by decide +kernel
theorem dX2_restart_31 : decode cX2_restart 31 = .ok (.bastore, 1) := by decide +kernel
theorem dX2_restart_32 : decode cX2_restart 32 = .ok (.aload_n 0, 1) := by decide +kernel
theorem dX2_restart_33 : decode cX2_restart 33 = .ok (.getfield 23, 3) := by decide +kernel
theorem dX2_restart_36 : decode cX2_restart 36 = .ok (.iload_n 3, 1) := by decide +kernel
theorem dX2_restart_37 : decode cX2_restart 37 = .ok (.iaload, 1) := by decide +kernel
theorem dX2_restart_38 : decode cX2_restart 38 = .ok (.ifCond .ne 11, 3) := by decide +kernel
theorem dX2_restart_41 : decode cX2_restart 41 = .ok (.aload_n 0, 1) := by decide +kernel
theorem dX2_restart_42 : decode cX2_restart 42 = .ok (.iload_n 3, 1) := by decide +kernel
theorem dX2_restart_43 : decode cX2_restart 43 = .ok (.invokevirtual 103, 3) := by decide +kernel
theorem dX2_restart_46 : decode cX2_restart 46 = .ok (.iinc 2 1, 3) := by decide +kernel
theorem dX2_restart_49 : decode cX2_restart 49 = .ok (.iinc 3 1, 3) := by decide +kernel
theorem dX2_restart_52 : decode cX2_restart 52 = .ok (.goto (-48), 3) := by decide +kernel
theorem dX2_restart_55 : decode cX2_restart 55 = .ok (.iconst 0, 1) := by decide +kernel
theorem dX2_restart_56 : decode cX2_restart 56 = .ok (.istore_n 3, 1) := by decide +kernel
theorem dX2_restart_57 : decode cX2_restart 57 = .ok (.iload_n 3, 1) := by decide +kernel
theorem dX2_restart_58 : decode cX2_restart 58 = .ok (.bipush 16, 2) := by decide +kernel
theorem dX2_restart_60 : decode cX2_restart 60 = .ok (.if_icmp .ge 52, 3) := by decide +kernel
theorem dX2_restart_63 : decode cX2_restart 63 = .ok (.aload_n 0, 1) := by decide +kernel
theorem dX2_restart_64 : decode cX2_restart 64 = .ok (.getfield 45, 3) := by decide +kernel
theorem dX2_restart_67 : decode cX2_restart 67 = .ok (.iload_n 3, 1) := by decide +kernel
theorem dX2_restart_68 : decode cX2_restart 68 = .ok (.iload_n 1, 1) := by decide +kernel
theorem dX2_restart_69 : decode cX2_restart 69 = .ok (.ifCond .eq 12, 3) := by decide +kernel
theorem dX2_restart_72 : decode cX2_restart 72 = .ok (.aload_n 0, 1) := by decide +kernel
theorem dX2_restart_73 : decode cX2_restart 73 = .ok (.getfield 45, 3) := by decide +kernel
theorem dX2_restart_76 : decode cX2_restart 76 = .ok (.iload_n 3, 1) := by decide +kernel
theorem dX2_restart_77 : decode cX2_restart 77 = .ok (.iaload, 1) := by decide +kernel
theorem dX2_restart_78 : decode cX2_restart 78 = .ok (.goto 5, 3) := by decide +kernel
theorem dX2_restart_81 : decode cX2_restart 81 = .ok (.bipush (-6), 2) := by decide +kernel
theorem dX2_restart_83 : decode cX2_restart 83 = .ok (.iastore, 1) := by decide +kernel
theorem dX2_restart_84 : decode cX2_restart 84 = .ok (.aload_n 0, 1) := by decide +kernel
theorem dX2_restart_85 : decode cX2_restart 85 = .ok (.getfield 48, 3) := by decide +kernel
theorem dX2_restart_88 : decode cX2_restart 88 = .ok (.iload_n 3, 1) := by decide +kernel
theorem dX2_restart_89 : decode cX2_restart 89 = .ok (.aload_n 0, 1) := by decide +kernel
theorem dX2_restart_90 : decode cX2_restart 90 = .ok (.getfield 45, 3) := by decide +kernel
theorem dX2_restart_93 : decode cX2_restart 93 = .ok (.iload_n 3, 1) := by decide +kernel
theorem dX2_restart_94 : decode cX2_restart 94 = .ok (.iaload, 1) := by decide +kernel
theorem dX2_restart_95 : decode cX2_restart 95 = .ok (.bipush (-6), 2) := by decide +kernel
theorem dX2_restart_97 : decode cX2_restart 97 = .ok (.if_icmp .eq 7, 3) := by decide +kernel
theorem dX2_restart_100 : decode cX2_restart 100 = .ok (.iconst 1, 1) := by decide +kernel
theorem dX2_restart_101 : decode cX2_restart 101 = .ok (.goto 4, 3) := by decide +kernel
theorem dX2_restart_104 : decode cX2_restart 104 = .ok (.iconst 0, 1) := by decide +kernel
theorem dX2_restart_105 : decode cX2_restart 105 = .ok (.bastore, 1) := by decide +kernel
theorem dX2_restart_106 : decode cX2_restart 106 = .ok (.iinc 3 1, 3) := by decide +kernel
theorem dX2_restart_109 : decode cX2_restart 109 = .ok (.goto (-52), 3) := by decide +kernel
theorem dX2_restart_112 : decode cX2_restart 112 = .ok (.aload_n 0, 1) := by decide +kernel
theorem dX2_restart_113 : decode cX2_restart 113 = .ok (.iconst 1, 1) := by decide +kernel
theorem dX2_restart_114 : decode cX2_restart 114 = .ok (.putfield 70, 3) := by decide +kernel
theorem dX2_restart_117 : decode cX2_restart 117 = .ok (.aload_n 0, 1) := by decide +kernel
theorem dX2_restart_118 : decode cX2_restart 118 = .ok (.aload_n 0, 1) := by decide +kernel
theorem dX2_restart_119 : decode cX2_restart 119 = .ok (.getfield 16, 3) := by decide +kernel
theorem dX2_restart_122 : decode cX2_restart 122 = .ok (.putfield 78, 3) := by decide +kernel
theorem dX2_restart_125 : decode cX2_restart 125 = .ok (.aload_n 0, 1) := by decide +kernel
theorem dX2_restart_126 : decode cX2_restart 126 = .ok (.invokevirtual 106, 3) := by decide +kernel
theorem dX2_restart_129 : decode cX2_restart 129 = .ok (.iload_n 2, 1) := by decide +kernel
theorem dX2_restart_130 : decode cX2_restart 130 = .ok (.ireturn, 1) := by decide +kernel
theorem dX2_known_0 : decode cX2_known 0 = .ok (.iconst 0, 1) := by decide +kernel
theorem dX2_known_1 : decode cX2_known 1 = .ok (.istore_n 2, 1) := by decide +kernel
theorem dX2_known_2 : decode cX2_known 2 = .ok (.iconst 0, 1) := by decide +kernel
theorem dX2_known_3 : decode cX2_known 3 = .ok (.istore_n 3, 1) := by decide +kernel
theorem dX2_known_4 : decode cX2_known 4 = .ok (.iload_n 3, 1) := by decide +kernel
theorem dX2_known_5 : decode cX2_known 5 = .ok (.bipush 16, 2) := by decide +kernel
theorem dX2_known_7 : decode cX2_known 7 = .ok (.if_icmp .ge 31, 3) := by decide +kernel
theorem dX2_known_10 : decode cX2_known 10 = .ok (.iload_n 2, 1) := by decide +kernel
theorem dX2_known_11 : decode cX2_known 11 = .ok (.aload_n 0, 1) := by decide +kernel
theorem dX2_known_12 : decode cX2_known 12 = .ok (.getfield 36, 3) := by decide +kernel
theorem dX2_known_15 : decode cX2_known 15 = .ok (.bipush 16, 2) := by decide +kernel
theorem dX2_known_17 : decode cX2_known 17 = .ok (.iload_n 1, 1) := by decide +kernel
theorem dX2_known_18 : decode cX2_known 18 = .ok (.imul, 1) := by decide +kernel
theorem dX2_known_19 : decode cX2_known 19 = .ok (.iload_n 3, 1) := by decide +kernel
theorem dX2_known_20 : decode cX2_known 20 = .ok (.iadd, 1) := by decide +kernel
theorem dX2_known_21 : decode cX2_known 21 = .ok (.iaload, 1) := by decide +kernel
theorem dX2_known_22 : decode cX2_known 22 = .ok (.ifCond .le 7, 3) := by decide +kernel
theorem dX2_known_25 : decode cX2_known 25 = .ok (.iconst 1, 1) := by decide +kernel
theorem dX2_known_26 : decode cX2_known 26 = .ok (.goto 4, 3) := by decide +kernel
theorem dX2_known_29 : decode cX2_known 29 = .ok (.iconst 0, 1) := by decide +kernel
theorem dX2_known_30 : decode cX2_known 30 = .ok (.iadd, 1) := by decide +kernel
theorem dX2_known_31 : decode cX2_known 31 = .ok (.istore_n 2, 1) := by decide +kernel
theorem dX2_known_32 : decode cX2_known 32 = .ok (.iinc 3 1, 3) := by decide +kernel
theorem dX2_known_35 : decode cX2_known 35 = .ok (.goto (-31), 3) := by decide +kernel
theorem dX2_known_38 : decode cX2_known 38 = .ok (.iload_n 2, 1) := by decide +kernel
theorem dX2_known_39 : decode cX2_known 39 = .ok (.ireturn, 1) := by decide +kernel
set_option maxRecDepth 20000 in
theorem ggX2_reconnect_X2_isPeer : GoodIn wsX2_reconnect wsX2_isPeer := goodIn_r _ [10, 11, 12, 13, 9, 14, 55, 56, 57, 58, 59, 60, 61, 62, 63, 64, 65, 66, 67, 68, 69, 70] (by decide +kernel) (by decide +kernel)
set_option maxRecDepth 20000 in
theorem gX2_reconnect_X2_isPeer : GoodIn wsX2_reconnect (wsV RX2 88 RX2 yX2_isPeer wsX2_isPeer) := goodIn_app (goodIn_of _ (by decide +kernel)) ggX2_reconnect_X2_isPeer
set_option maxRecDepth 20000 in
theorem ggX2_reconnect_X2_selectsAll : GoodIn wsX2_reconnect wsX2_selectsAll := goodIn_r _ [18, 19, 20, 21, 9, 22, 23, 24, 11, 1, 25, 26, 27, 28, 29, 30, 31, 32, 33, 34, 35, 55, 56, 57, 58, 59, 60, 61, 62, 63, 64, 65, 66, 67, 68, 69, 70] (by decide +kernel) (by decide +kernel)
set_option maxRecDepth 20000 in
theorem gX2_reconnect_X2_selectsAll : GoodIn wsX2_reconnect (wsV RX2 81 RX2 yX2_selectsAll wsX2_selectsAll) := goodIn_app (goodIn_of _ (by decide +kernel)) ggX2_reconnect_X2_selectsAll
set_option maxRecDepth 20000 in
theorem ggX2_reconnect_X2_forgets : GoodIn wsX2_reconnect wsX2_forgets := goodIn_r _ [39, 34, 35, 55, 56, 57, 58, 59, 60, 61, 62, 63, 64, 65, 66, 67, 68, 69, 70] (by decide +kernel) (by decide +kernel)
set_option maxRecDepth 20000 in
theorem gX2_reconnect_X2_forgets : GoodIn wsX2_reconnect (wsV RX2 84 RX2 yX2_forgets wsX2_forgets) := goodIn_app (goodIn_of _ (by decide +kernel)) ggX2_reconnect_X2_forgets
set_option maxRecDepth 20000 in
theorem ggX2_reconnect_X2_checksDeferral : GoodIn wsX2_reconnect wsX2_checksDeferral := goodIn_r _ [43, 5, 44, 11, 1, 3, 45, 46, 47, 9, 48, 49, 50, 15, 16, 17, 18, 19, 20, 21, 22, 23, 24, 25, 26, 27, 28, 29, 30, 31, 32, 33, 34, 35, 36, 37, 38, 39, 55, 56, 57, 58, 59, 60, 61, 62, 63, 64, 65, 66, 67, 68, 69, 70] (by decide +kernel) (by decide +kernel)
set_option maxRecDepth 20000 in
theorem gX2_reconnect_X2_checksDeferral : GoodIn wsX2_reconnect (wsV RX2 106 RX2 yX2_checksDeferral wsX2_checksDeferral) := goodIn_app (goodIn_of _ (by decide +kernel)) ggX2_reconnect_X2_checksDeferral
set_option maxRecDepth 20000 in
theorem ggX2_reconnect_X2_known : GoodIn wsX2_reconnect wsX2_known := goodIn_r _ [54, 29, 55, 56, 57, 58, 59, 60, 61, 62, 63, 64, 65, 66, 67, 68, 69, 70] (by decide +kernel) (by decide +kernel)
set_option maxRecDepth 20000 in
theorem gX2_reconnect_X2_known : GoodIn wsX2_reconnect (wsV RX2 109 RX2 yX2_known wsX2_known) := goodIn_app (goodIn_of _ (by decide +kernel)) ggX2_reconnect_X2_known
theorem dX2_reconnect_0 : decode cX2_reconnect 0 = .ok (.aload_n 0, 1) := by decide +kernel
theorem dX2_reconnect_1 : decode cX2_reconnect 1 = .ok (.iload_n 1, 1) := by decide +kernel
theorem dX2_reconnect_2 : decode cX2_reconnect 2 = .ok (.invokevirtual 88, 3) := by decide +kernel
theorem dX2_reconnect_5 : decode cX2_reconnect 5 = .ok (.ifCond .ne 5, 3) := by decide +kernel
theorem dX2_reconnect_8 : decode cX2_reconnect 8 = .ok (.iconst (-1), 1) := by decide +kernel
theorem dX2_reconnect_9 : decode cX2_reconnect 9 = .ok (.ireturn, 1) := by decide +kernel
theorem dX2_reconnect_10 : decode cX2_reconnect 10 = .ok (.aload_n 0, 1) := by decide +kernel
theorem dX2_reconnect_11 : decode cX2_reconnect 11 = .ok (.getfield 23, 3) := by decide +kernel
theorem dX2_reconnect_14 : decode cX2_reconnect 14 = .ok (.iload_n 1, 1) := by decide +kernel
theorem dX2_reconnect_15 : decode cX2_reconnect 15 = .ok (.iaload, 1) := by decide +kernel
theorem dX2_reconnect_16 : decode cX2_reconnect 16 = .ok (.ifCond .ne 6, 3) := by decide +kernel
theorem dX2_reconnect_19 : decode cX2_reconnect 19 = .ok (.bipush (-4), 2) := by decide +kernel
theorem dX2_reconnect_21 : decode cX2_reconnect 21 = .ok (.ireturn, 1) := by decide +kernel
theorem dX2_reconnect_22 : decode cX2_reconnect 22 = .ok (.aload_n 0, 1) := by decide +kernel
theorem dX2_reconnect_23 : decode cX2_reconnect 23 = .ok (.getfield 23, 3) := by decide +kernel
theorem dX2_reconnect_26 : decode cX2_reconnect 26 = .ok (.iload_n 1, 1) := by decide +kernel
theorem dX2_reconnect_27 : decode cX2_reconnect 27 = .ok (.iaload, 1) := by decide +kernel
theorem dX2_reconnect_28 : decode cX2_reconnect 28 = .ok (.iconst 1, 1) := by decide +kernel
theorem dX2_reconnect_29 : decode cX2_reconnect 29 = .ok (.if_icmp .ne 20, 3) := by decide +kernel
theorem dX2_reconnect_32 : decode cX2_reconnect 32 = .ok (.aload_n 0, 1) := by decide +kernel
theorem dX2_reconnect_33 : decode cX2_reconnect 33 = .ok (.getfield 27, 3) := by decide +kernel
theorem dX2_reconnect_36 : decode cX2_reconnect 36 = .ok (.iload_n 1, 1) := by decide +kernel
theorem dX2_reconnect_37 : decode cX2_reconnect 37 = .ok (.iconst 0, 1) := by decide +kernel
theorem dX2_reconnect_38 : decode cX2_reconnect 38 = .ok (.iastore, 1) := by decide +kernel
theorem dX2_reconnect_39 : decode cX2_reconnect 39 = .ok (.aload_n 0, 1) := by decide +kernel
theorem dX2_reconnect_40 : decode cX2_reconnect 40 = .ok (.getfield 30, 3) := by decide +kernel
theorem dX2_reconnect_43 : decode cX2_reconnect 43 = .ok (.iload_n 1, 1) := by decide +kernel
theorem dX2_reconnect_44 : decode cX2_reconnect 44 = .ok (.aload_n 0, 1) := by decide +kernel
theorem dX2_reconnect_45 : decode cX2_reconnect 45 = .ok (.getfield 13, 3) := by decide +kernel
theorem dX2_reconnect_48 : decode cX2_reconnect 48 = .ok (.iastore, 1) := by decide +kernel
theorem dX2_reconnect_49 : decode cX2_reconnect 49 = .ok (.aload_n 0, 1) := by decide +kernel
theorem dX2_reconnect_50 : decode cX2_reconnect 50 = .ok (.getfield 23, 3) := by decide +kernel
theorem dX2_reconnect_53 : decode cX2_reconnect 53 = .ok (.iload_n 1, 1) := by decide +kernel
theorem dX2_reconnect_54 : decode cX2_reconnect 54 = .ok (.iconst 0, 1) := by decide +kernel
theorem dX2_reconnect_55 : decode cX2_reconnect 55 = .ok (.iastore, 1) := by decide +kernel
theorem dX2_reconnect_56 : decode cX2_reconnect 56 = .ok (.aload_n 0, 1) := by decide +kernel
theorem dX2_reconnect_57 : decode cX2_reconnect 57 = .ok (.getfield 70, 3) := by decide +kernel
theorem dX2_reconnect_60 : decode cX2_reconnect 60 = .ok (.ifCond .ne 21, 3) := by decide +kernel
theorem dX2_reconnect_63 : decode cX2_reconnect 63 = .ok (.aload_n 0, 1) := by decide +kernel
theorem dX2_reconnect_64 : decode cX2_reconnect 64 = .ok (.invokevirtual 81, 3) := by decide +kernel
theorem dX2_reconnect_67 : decode cX2_reconnect 67 = .ok (.aload_n 0, 1) := by decide +kernel
theorem dX2_reconnect_68 : decode cX2_reconnect 68 = .ok (.iload_n 1, 1) := by decide +kernel
theorem dX2_reconnect_69 : decode cX2_reconnect 69 = .ok (.iconst 1, 1) := by decide +kernel
theorem dX2_reconnect_70 : decode cX2_reconnect 70 = .ok (.invokevirtual 84, 3) := by decide +kernel
theorem dX2_reconnect_73 : decode cX2_reconnect 73 = .ok (.pop, 1) := by decide +kernel
theorem dX2_reconnect_74 : decode cX2_reconnect 74 = .ok (.aload_n 0, 1) := by decide +kernel
theorem dX2_reconnect_75 : decode cX2_reconnect 75 = .ok (.getfield 30, 3) := by decide +kernel
theorem dX2_reconnect_78 : decode cX2_reconnect 78 = .ok (.iload_n 1, 1) := by decide +kernel
theorem dX2_reconnect_79 : decode cX2_reconnect 79 = .ok (.iconst 0, 1) := by decide +kernel
theorem dX2_reconnect_80 : decode cX2_reconnect 80 = .ok (.iastore, 1) := by decide +kernel
theorem dX2_reconnect_81 : decode cX2_reconnect 81 = .ok (.aload_n 0, 1) := by decide +kernel
theorem dX2_reconnect_82 : decode cX2_reconnect 82 = .ok (.invokevirtual 106, 3) := by decide +kernel
theorem dX2_reconnect_85 : decode cX2_reconnect 85 = .ok (.aload_n 0, 1) := by decide +kernel
theorem dX2_reconnect_86 : decode cX2_reconnect 86 = .ok (.iload_n 1, 1) := by decide +kernel
theorem dX2_reconnect_87 : decode cX2_reconnect 87 = .ok (.invokevirtual 109, 3) := by decide +kernel
theorem dX2_reconnect_90 : decode cX2_reconnect 90 = .ok (.ireturn, 1) := by decide +kernel
set_option maxRecDepth 20000 in
theorem ggX2_disconnect_X2_isPeer : GoodIn wsX2_disconnect wsX2_isPeer := goodIn_r _ [9, 10, 11, 12, 8, 13, 50, 51, 52, 53, 54, 55, 56, 57, 58, 59, 60, 61, 62, 63, 64, 65] (by decide +kernel) (by decide +kernel)
set_option maxRecDepth 20000 in
theorem gX2_disconnect_X2_isPeer : GoodIn wsX2_disconnect (wsV RX2 88 RX2 yX2_isPeer wsX2_isPeer) := goodIn_app (goodIn_of _ (by decide +kernel)) ggX2_disconnect_X2_isPeer
set_option maxRecDepth 20000 in
theorem ggX2_disconnect_X2_forgets : GoodIn wsX2_disconnect wsX2_forgets := goodIn_r _ [17, 18, 19, 50, 51, 52, 53, 54, 55, 56, 57, 58, 59, 60, 61, 62, 63, 64, 65] (by decide +kernel) (by decide +kernel)
set_option maxRecDepth 20000 in
theorem gX2_disconnect_X2_forgets : GoodIn wsX2_disconnect (wsV RX2 84 RX2 yX2_forgets wsX2_forgets) := goodIn_app (goodIn_of _ (by decide +kernel)) ggX2_disconnect_X2_forgets
set_option maxRecDepth 20000 in
theorem ggX2_disconnect_X2_selectsAll : GoodIn wsX2_disconnect wsX2_selectsAll := goodIn_r _ [23, 24, 25, 26, 8, 27, 28, 29, 10, 1, 30, 31, 32, 33, 34, 35, 36, 37, 38, 18, 19, 50, 51, 52, 53, 54, 55, 56, 57, 58, 59, 60, 61, 62, 63, 64, 65] (by decide +kernel) (by decide +kernel)
set_option maxRecDepth 20000 in
theorem gX2_disconnect_X2_selectsAll : GoodIn wsX2_disconnect (wsV RX2 81 RX2 yX2_selectsAll wsX2_selectsAll) := goodIn_app (goodIn_of _ (by decide +kernel)) ggX2_disconnect_X2_selectsAll
set_option maxRecDepth 20000 in
theorem ggX2_disconnect_X2_checksDeferral : GoodIn wsX2_disconnect wsX2_checksDeferral := goodIn_r _ [42, 4, 43, 10, 1, 3, 44, 45, 46, 8, 47, 48, 49, 20, 21, 22, 23, 24, 25, 26, 27, 28, 29, 30, 31, 32, 33, 34, 35, 36, 37, 38, 18, 19, 14, 15, 16, 17, 50, 51, 52, 53, 54, 55, 56, 57, 58, 59, 60, 61, 62, 63, 64, 65] (by decide +kernel) (by decide +kernel)
set_option maxRecDepth 20000 in
theorem gX2_disconnect_X2_checksDeferral : GoodIn wsX2_disconnect (wsV RX2 106 RX2 yX2_checksDeferral wsX2_checksDeferral) := goodIn_app (goodIn_of _ (by decide +kernel)) ggX2_disconnect_X2_checksDeferral
theorem dX2_disconnect_0 : decode cX2_disconnect 0 = .ok (.aload_n 0, 1) := by decide +kernel
theorem dX2_disconnect_1 : decode cX2_disconnect 1 = .ok (.iload_n 1, 1) := by decide +kernel
theorem dX2_disconnect_2 : decode cX2_disconnect 2 = .ok (.invokevirtual 88, 3) := by decide +kernel
theorem dX2_disconnect_5 : decode cX2_disconnect 5 = .ok (.ifCond .ne 5, 3) := by decide +kernel
theorem dX2_disconnect_8 : decode cX2_disconnect 8 = .ok (.iconst (-1), 1) := by decide +kernel
theorem dX2_disconnect_9 : decode cX2_disconnect 9 = .ok (.ireturn, 1) := by decide +kernel
theorem dX2_disconnect_10 : decode cX2_disconnect 10 = .ok (.aload_n 0, 1) := by decide +kernel
theorem dX2_disconnect_11 : decode cX2_disconnect 11 = .ok (.getfield 23, 3) := by decide +kernel
theorem dX2_disconnect_14 : decode cX2_disconnect 14 = .ok (.iload_n 1, 1) := by decide +kernel
theorem dX2_disconnect_15 : decode cX2_disconnect 15 = .ok (.iaload, 1) := by decide +kernel
theorem dX2_disconnect_16 : decode cX2_disconnect 16 = .ok (.iconst 2, 1) := by decide +kernel
theorem dX2_disconnect_17 : decode cX2_disconnect 17 = .ok (.if_icmp .ne 6, 3) := by decide +kernel
theorem dX2_disconnect_20 : decode cX2_disconnect 20 = .ok (.bipush (-4), 2) := by decide +kernel
theorem dX2_disconnect_22 : decode cX2_disconnect 22 = .ok (.ireturn, 1) := by decide +kernel
theorem dX2_disconnect_23 : decode cX2_disconnect 23 = .ok (.aload_n 0, 1) := by decide +kernel
theorem dX2_disconnect_24 : decode cX2_disconnect 24 = .ok (.getfield 23, 3) := by decide +kernel
theorem dX2_disconnect_27 : decode cX2_disconnect 27 = .ok (.iload_n 1, 1) := by decide +kernel
theorem dX2_disconnect_28 : decode cX2_disconnect 28 = .ok (.iconst 2, 1) := by decide +kernel
theorem dX2_disconnect_29 : decode cX2_disconnect 29 = .ok (.iastore, 1) := by decide +kernel
theorem dX2_disconnect_30 : decode cX2_disconnect 30 = .ok (.aload_n 0, 1) := by decide +kernel
theorem dX2_disconnect_31 : decode cX2_disconnect 31 = .ok (.getfield 27, 3) := by decide +kernel
theorem dX2_disconnect_34 : decode cX2_disconnect 34 = .ok (.iload_n 1, 1) := by decide +kernel
theorem dX2_disconnect_35 : decode cX2_disconnect 35 = .ok (.iconst 0, 1) := by decide +kernel
theorem dX2_disconnect_36 : decode cX2_disconnect 36 = .ok (.iastore, 1) := by decide +kernel
theorem dX2_disconnect_37 : decode cX2_disconnect 37 = .ok (.aload_n 0, 1) := by decide +kernel
theorem dX2_disconnect_38 : decode cX2_disconnect 38 = .ok (.getfield 30, 3) := by decide +kernel
theorem dX2_disconnect_41 : decode cX2_disconnect 41 = .ok (.iload_n 1, 1) := by decide +kernel
theorem dX2_disconnect_42 : decode cX2_disconnect 42 = .ok (.iconst 0, 1) := by decide +kernel
theorem dX2_disconnect_43 : decode cX2_disconnect 43 = .ok (.iastore, 1) := by decide +kernel
theorem dX2_disconnect_44 : decode cX2_disconnect 44 = .ok (.aload_n 0, 1) := by decide +kernel
theorem dX2_disconnect_45 : decode cX2_disconnect 45 = .ok (.iload_n 1, 1) := by decide +kernel
theorem dX2_disconnect_46 : decode cX2_disconnect 46 = .ok (.iconst 0, 1) := by decide +kernel
theorem dX2_disconnect_47 : decode cX2_disconnect 47 = .ok (.invokevirtual 84, 3) := by decide +kernel
theorem dX2_disconnect_50 : decode cX2_disconnect 50 = .ok (.istore_n 2, 1) := by decide +kernel
theorem dX2_disconnect_51 : decode cX2_disconnect 51 = .ok (.aload_n 0, 1) := by decide +kernel
theorem dX2_disconnect_52 : decode cX2_disconnect 52 = .ok (.getfield 70, 3) := by decide +kernel
theorem dX2_disconnect_55 : decode cX2_disconnect 55 = .ok (.ifCond .ne 7, 3) := by decide +kernel
theorem dX2_disconnect_58 : decode cX2_disconnect 58 = .ok (.aload_n 0, 1) := by decide +kernel
theorem dX2_disconnect_59 : decode cX2_disconnect 59 = .ok (.invokevirtual 81, 3) := by decide +kernel
theorem dX2_disconnect_62 : decode cX2_disconnect 62 = .ok (.aload_n 0, 1) := by decide +kernel
theorem dX2_disconnect_63 : decode cX2_disconnect 63 = .ok (.invokevirtual 106, 3) := by decide +kernel
theorem dX2_disconnect_66 : decode cX2_disconnect 66 = .ok (.iload_n 2, 1) := by decide +kernel
theorem dX2_disconnect_67 : decode cX2_disconnect 67 = .ok (.ireturn, 1) := by decide +kernel
set_option maxRecDepth 20000 in
theorem ggX2_endOfTable_X2_isPeer : GoodIn wsX2_endOfTable wsX2_isPeer := goodIn_r _ [7, 8, 9, 10, 6, 11, 49, 50, 51, 52, 53, 54, 55, 56, 57, 58, 59, 60, 61, 62, 63, 64] (by decide +kernel) (by decide +kernel)
set_option maxRecDepth 20000 in
theorem gX2_endOfTable_X2_isPeer : GoodIn wsX2_endOfTable (wsV RX2 88 RX2 yX2_isPeer wsX2_isPeer) := goodIn_app (goodIn_of _ (by decide +kernel)) ggX2_endOfTable_X2_isPeer
set_option maxRecDepth 20000 in
theorem ggX2_endOfTable_X2_within : GoodIn wsX2_endOfTable wsX2_within := goodIn_r _ [11] (by decide +kernel) (by decide +kernel)
set_option maxRecDepth 20000 in
theorem gX2_endOfTable_X2_within : GoodIn wsX2_endOfTable (va_wsS RX2 51 yX2_within wsX2_within) := goodIn_app (goodIn_of _ (by decide +kernel)) ggX2_endOfTable_X2_within
set_option maxRecDepth 20000 in
theorem ggX2_endOfTable_X2_checksDeferral : GoodIn wsX2_endOfTable wsX2_checksDeferral := goodIn_r _ [15, 16, 17, 8, 1, 18, 19, 20, 21, 6, 22, 23, 2, 24, 25, 26, 27, 28, 29, 30, 31, 32, 33, 34, 35, 36, 37, 38, 39, 40, 41, 42, 43, 44, 45, 46, 47, 48, 49, 50, 51, 52, 53, 54, 55, 56, 57, 58, 59, 60, 61, 62, 63, 64] (by decide +kernel) (by decide +kernel)
set_option maxRecDepth 20000 in
theorem gX2_endOfTable_X2_checksDeferral : GoodIn wsX2_endOfTable (wsV RX2 106 RX2 yX2_checksDeferral wsX2_checksDeferral) := goodIn_app (goodIn_of _ (by decide +kernel)) ggX2_endOfTable_X2_checksDeferral
theorem dX2_endOfTable_0 : decode cX2_endOfTable 0 = .ok (.aload_n 0, 1) := by decide +kernel
theorem dX2_endOfTable_1 : decode cX2_endOfTable 1 = .ok (.iload_n 1, 1) := by decide +kernel
theorem dX2_endOfTable_2 : decode cX2_endOfTable 2 = .ok (.invokevirtual 88, 3) := by decide +kernel
theorem dX2_endOfTable_5 : decode cX2_endOfTable 5 = .ok (.ifCond .ne 5, 3) := by decide +kernel
theorem dX2_endOfTable_8 : decode cX2_endOfTable 8 = .ok (.iconst (-1), 1) := by decide +kernel
theorem dX2_endOfTable_9 : decode cX2_endOfTable 9 = .ok (.ireturn, 1) := by decide +kernel
theorem dX2_endOfTable_10 : decode cX2_endOfTable 10 = .ok (.iload_n 2, 1) := by decide +kernel
theorem dX2_endOfTable_11 : decode cX2_endOfTable 11 = .ok (.iconst 0, 1) := by decide +kernel
theorem dX2_endOfTable_12 : decode cX2_endOfTable 12 = .ok (.iconst 1, 1) := by decide +kernel
theorem dX2_endOfTable_13 : decode cX2_endOfTable 13 = .ok (.invokestatic 51, 3) := by decide +kernel
theorem dX2_endOfTable_16 : decode cX2_endOfTable 16 = .ok (.ifCond .ne 6, 3) := by decide +kernel
theorem dX2_endOfTable_19 : decode cX2_endOfTable 19 = .ok (.bipush (-2), 2) := by decide +kernel
theorem dX2_endOfTable_21 : decode cX2_endOfTable 21 = .ok (.ireturn, 1) := by decide +kernel
theorem dX2_endOfTable_22 : decode cX2_endOfTable 22 = .ok (.aload_n 0, 1) := by decide +kernel
theorem dX2_endOfTable_23 : decode cX2_endOfTable 23 = .ok (.getfield 23, 3) := by decide +kernel
theorem dX2_endOfTable_26 : decode cX2_endOfTable 26 = .ok (.iload_n 1, 1) := by decide +kernel
theorem dX2_endOfTable_27 : decode cX2_endOfTable 27 = .ok (.iaload, 1) := by decide +kernel
theorem dX2_endOfTable_28 : decode cX2_endOfTable 28 = .ok (.ifCond .eq 6, 3) := by decide +kernel
theorem dX2_endOfTable_31 : decode cX2_endOfTable 31 = .ok (.bipush (-4), 2) := by decide +kernel
theorem dX2_endOfTable_33 : decode cX2_endOfTable 33 = .ok (.ireturn, 1) := by decide +kernel
theorem dX2_endOfTable_34 : decode cX2_endOfTable 34 = .ok (.aload_n 0, 1) := by decide +kernel
theorem dX2_endOfTable_35 : decode cX2_endOfTable 35 = .ok (.getfield 33, 3) := by decide +kernel
theorem dX2_endOfTable_38 : decode cX2_endOfTable 38 = .ok (.iconst 2, 1) := by decide +kernel
theorem dX2_endOfTable_39 : decode cX2_endOfTable 39 = .ok (.iload_n 1, 1) := by decide +kernel
theorem dX2_endOfTable_40 : decode cX2_endOfTable 40 = .ok (.imul, 1) := by decide +kernel
theorem dX2_endOfTable_41 : decode cX2_endOfTable 41 = .ok (.iload_n 2, 1) := by decide +kernel
theorem dX2_endOfTable_42 : decode cX2_endOfTable 42 = .ok (.iadd, 1) := by decide +kernel
theorem dX2_endOfTable_43 : decode cX2_endOfTable 43 = .ok (.baload, 1) := by decide +kernel
theorem dX2_endOfTable_44 : decode cX2_endOfTable 44 = .ok (.ifCond .eq 5, 3) := by decide +kernel
theorem dX2_endOfTable_47 : decode cX2_endOfTable 47 = .ok (.iconst 0, 1) := by decide +kernel
theorem dX2_endOfTable_48 : decode cX2_endOfTable 48 = .ok (.ireturn, 1) := by decide +kernel
theorem dX2_endOfTable_49 : decode cX2_endOfTable 49 = .ok (.aload_n 0, 1) := by decide +kernel
theorem dX2_endOfTable_50 : decode cX2_endOfTable 50 = .ok (.getfield 33, 3) := by decide +kernel
theorem dX2_endOfTable_53 : decode cX2_endOfTable 53 = .ok (.iconst 2, 1) := by decide +kernel
theorem dX2_endOfTable_54 : decode cX2_endOfTable 54 = .ok (.iload_n 1, 1) := by decide +kernel
theorem dX2_endOfTable_55 : decode cX2_endOfTable 55 = .ok (.imul, 1) := by decide +kernel
theorem dX2_endOfTable_56 : decode cX2_endOfTable 56 = .ok (.iload_n 2, 1) := by decide +kernel
theorem dX2_endOfTable_57 : decode cX2_endOfTable 57 = .ok (.iadd, 1) := by decide +kernel
theorem dX2_endOfTable_58 : decode cX2_endOfTable 58 = .ok (.iconst 1, 1) := by decide +kernel
theorem dX2_endOfTable_59 : decode cX2_endOfTable 59 = .ok (.bastore, 1) := by decide +kernel
theorem dX2_endOfTable_60 : decode cX2_endOfTable 60 = .ok (.aload_n 0, 1) := by decide +kernel
theorem dX2_endOfTable_61 : decode cX2_endOfTable 61 = .ok (.invokevirtual 106, 3) := by decide +kernel
theorem dX2_endOfTable_64 : decode cX2_endOfTable 64 = .ok (.iconst 1, 1) := by decide +kernel
theorem dX2_endOfTable_65 : decode cX2_endOfTable 65 = .ok (.ireturn, 1) := by decide +kernel
set_option maxRecDepth 20000 in
theorem ggX2_ages_X2_forgets : GoodIn wsX2_ages wsX2_forgets := goodIn_r _ [8, 9, 10, 11, 12, 13, 14, 15, 16, 17, 18, 19, 20, 21, 22, 23, 24, 25, 26] (by decide +kernel) (by decide +kernel)
set_option maxRecDepth 20000 in
theorem gX2_ages_X2_forgets : GoodIn wsX2_ages (wsV RX2 84 RX2 yX2_forgets wsX2_forgets) := goodIn_app (goodIn_of _ (by decide +kernel)) ggX2_ages_X2_forgets
theorem dX2_ages_0 : decode cX2_ages 0 = .ok (.iconst 0, 1) := by decide +kernel
theorem dX2_ages_1 : decode cX2_ages 1 = .ok (.istore_n 2, 1) := by decide +kernel
theorem dX2_ages_2 : decode cX2_ages 2 = .ok (.aload_n 0, 1) := by decide +kernel
theorem dX2_ages_3 : decode cX2_ages 3 = .ok (.getfield 27, 3) := by decide +kernel
theorem dX2_ages_6 : decode cX2_ages 6 = .ok (.iload_n 1, 1) := by decide +kernel
theorem dX2_ages_7 : decode cX2_ages 7 = .ok (.iaload, 1) := by decide +kernel
theorem dX2_ages_8 : decode cX2_ages 8 = .ok (.ifCond .le 38, 3) := by decide +kernel
theorem dX2_ages_11 : decode cX2_ages 11 = .ok (.aload_n 0, 1) := by decide +kernel
theorem dX2_ages_12 : decode cX2_ages 12 = .ok (.getfield 27, 3) := by decide +kernel
theorem dX2_ages_15 : decode cX2_ages 15 = .ok (.iload_n 1, 1) := by decide +kernel
theorem dX2_ages_16 : decode cX2_ages 16 = .ok (.dup2, 1) := by decide +kernel
theorem dX2_ages_17 : decode cX2_ages 17 = .ok (.iaload, 1) := by decide +kernel
theorem dX2_ages_18 : decode cX2_ages 18 = .ok (.iconst 1, 1) := by decide +kernel
theorem dX2_ages_19 : decode cX2_ages 19 = .ok (.isub, 1) := by decide +kernel
theorem dX2_ages_20 : decode cX2_ages 20 = .ok (.iastore, 1) := by decide +kernel
theorem dX2_ages_21 : decode cX2_ages 21 = .ok (.aload_n 0, 1) := by decide +kernel
theorem dX2_ages_22 : decode cX2_ages 22 = .ok (.getfield 27, 3) := by decide +kernel
theorem dX2_ages_25 : decode cX2_ages 25 = .ok (.iload_n 1, 1) := by decide +kernel
theorem dX2_ages_26 : decode cX2_ages 26 = .ok (.iaload, 1) := by decide +kernel
theorem dX2_ages_27 : decode cX2_ages 27 = .ok (.ifCond .ne 19, 3) := by decide +kernel
theorem dX2_ages_30 : decode cX2_ages 30 = .ok (.aload_n 0, 1) := by decide +kernel
theorem dX2_ages_31 : decode cX2_ages 31 = .ok (.getfield 23, 3) := by decide +kernel
theorem dX2_ages_34 : decode cX2_ages 34 = .ok (.iload_n 1, 1) := by decide +kernel
theorem dX2_ages_35 : decode cX2_ages 35 = .ok (.iconst 2, 1) := by decide +kernel
theorem dX2_ages_36 : decode cX2_ages 36 = .ok (.iastore, 1) := by decide +kernel
theorem dX2_ages_37 : decode cX2_ages 37 = .ok (.iload_n 2, 1) := by decide +kernel
theorem dX2_ages_38 : decode cX2_ages 38 = .ok (.aload_n 0, 1) := by decide +kernel
theorem dX2_ages_39 : decode cX2_ages 39 = .ok (.iload_n 1, 1) := by decide +kernel
theorem dX2_ages_40 : decode cX2_ages 40 = .ok (.iconst 0, 1) := by decide +kernel
theorem dX2_ages_41 : decode cX2_ages 41 = .ok (.invokevirtual 84, 3) := by decide +kernel
theorem dX2_ages_44 : decode cX2_ages 44 = .ok (.iadd, 1) := by decide +kernel
theorem dX2_ages_45 : decode cX2_ages 45 = .ok (.istore_n 2, 1) := by decide +kernel
theorem dX2_ages_46 : decode cX2_ages 46 = .ok (.aload_n 0, 1) := by decide +kernel
theorem dX2_ages_47 : decode cX2_ages 47 = .ok (.getfield 30, 3) := by decide +kernel
theorem dX2_ages_50 : decode cX2_ages 50 = .ok (.iload_n 1, 1) := by decide +kernel
theorem dX2_ages_51 : decode cX2_ages 51 = .ok (.iaload, 1) := by decide +kernel
theorem dX2_ages_52 : decode cX2_ages 52 = .ok (.ifCond .le 35, 3) := by decide +kernel
theorem dX2_ages_55 : decode cX2_ages 55 = .ok (.aload_n 0, 1) := by decide +kernel
theorem dX2_ages_56 : decode cX2_ages 56 = .ok (.getfield 30, 3) := by decide +kernel
theorem dX2_ages_59 : decode cX2_ages 59 = .ok (.iload_n 1, 1) := by decide +kernel
theorem dX2_ages_60 : decode cX2_ages 60 = .ok (.dup2, 1) := by decide +kernel
theorem dX2_ages_61 : decode cX2_ages 61 = .ok (.iaload, 1) := by decide +kernel
theorem dX2_ages_62 : decode cX2_ages 62 = .ok (.iconst 1, 1) := by decide +kernel
theorem dX2_ages_63 : decode cX2_ages 63 = .ok (.isub, 1) := by decide +kernel
theorem dX2_ages_64 : decode cX2_ages 64 = .ok (.iastore, 1) := by decide +kernel
theorem dX2_ages_65 : decode cX2_ages 65 = .ok (.iload_n 2, 1) := by decide +kernel
theorem dX2_ages_66 : decode cX2_ages 66 = .ok (.aload_n 0, 1) := by decide +kernel
theorem dX2_ages_67 : decode cX2_ages 67 = .ok (.getfield 30, 3) := by decide +kernel
theorem dX2_ages_70 : decode cX2_ages 70 = .ok (.iload_n 1, 1) := by decide +kernel
theorem dX2_ages_71 : decode cX2_ages 71 = .ok (.iaload, 1) := by decide +kernel
theorem dX2_ages_72 : decode cX2_ages 72 = .ok (.ifCond .ne 12, 3) := by decide +kernel
theorem dX2_ages_75 : decode cX2_ages 75 = .ok (.aload_n 0, 1) := by decide +kernel
theorem dX2_ages_76 : decode cX2_ages 76 = .ok (.iload_n 1, 1) := by decide +kernel
theorem dX2_ages_77 : decode cX2_ages 77 = .ok (.iconst 1, 1) := by decide +kernel
theorem dX2_ages_78 : decode cX2_ages 78 = .ok (.invokevirtual 84, 3) := by decide +kernel
theorem dX2_ages_81 : decode cX2_ages 81 = .ok (.goto 4, 3) := by decide +kernel
theorem dX2_ages_84 : decode cX2_ages 84 = .ok (.iconst 0, 1) := by decide +kernel
theorem dX2_ages_85 : decode cX2_ages 85 = .ok (.iadd, 1) := by decide +kernel
theorem dX2_ages_86 : decode cX2_ages 86 = .ok (.istore_n 2, 1) := by decide +kernel
theorem dX2_ages_87 : decode cX2_ages 87 = .ok (.iload_n 2, 1) := by decide +kernel
theorem dX2_ages_88 : decode cX2_ages 88 = .ok (.ireturn, 1) := by decide +kernel
set_option maxRecDepth 20000 in
theorem ggX2_tick_X2_within : GoodIn wsX2_tick wsX2_within := goodIn_r _ [6] (by decide +kernel) (by decide +kernel)
set_option maxRecDepth 20000 in
theorem gX2_tick_X2_within : GoodIn wsX2_tick (va_wsS RX2 51 yX2_within wsX2_within) := goodIn_app (goodIn_of _ (by decide +kernel)) ggX2_tick_X2_within
set_option maxRecDepth 20000 in
theorem ggX2_tick_X2_ages : GoodIn wsX2_tick wsX2_ages := goodIn_r _ [10, 11, 12, 13, 14, 15, 16, 5, 17, 18, 19, 50, 51, 52, 53, 54, 55, 56, 57, 58, 59, 60, 61, 62, 63, 64, 65] (by decide +kernel) (by decide +kernel)
set_option maxRecDepth 20000 in
theorem gX2_tick_X2_ages : GoodIn wsX2_tick (wsV RX2 112 RX2 yX2_ages wsX2_ages) := goodIn_app (goodIn_of _ (by decide +kernel)) ggX2_tick_X2_ages
set_option maxRecDepth 20000 in
theorem ggX2_tick_X2_checksDeferral : GoodIn wsX2_tick wsX2_checksDeferral := goodIn_r _ [23, 24, 2, 1, 12, 13, 25, 26, 27, 5, 28, 29, 30, 31, 32, 33, 34, 35, 36, 37, 38, 39, 40, 41, 42, 43, 44, 45, 46, 47, 48, 49, 18, 19, 14, 15, 16, 17, 50, 51, 52, 53, 54, 55, 56, 57, 58, 59, 60, 61, 62, 63, 64, 65] (by decide +kernel) (by decide +kernel)
set_option maxRecDepth 20000 in
theorem gX2_tick_X2_checksDeferral : GoodIn wsX2_tick (wsV RX2 106 RX2 yX2_checksDeferral wsX2_checksDeferral) := goodIn_app (goodIn_of _ (by decide +kernel)) ggX2_tick_X2_checksDeferral
theorem dX2_tick_0 : decode cX2_tick 0 = .ok (.iload_n 1, 1) := by decide +kernel
theorem dX2_tick_1 : decode cX2_tick 1 = .ok (.iconst 1, 1) := by decide +kernel
theorem dX2_tick_2 : decode cX2_tick 2 = .ok (.bipush 100, 2) := by decide +kernel
theorem dX2_tick_4 : decode cX2_tick 4 = .ok (.invokestatic 51, 3) := by decide +kernel
theorem dX2_tick_7 : decode cX2_tick 7 = .ok (.ifCond .ne 6, 3) := by decide +kernel
theorem dX2_tick_10 : decode cX2_tick 10 = .ok (.bipush (-3), 2) := by decide +kernel
theorem dX2_tick_12 : decode cX2_tick 12 = .ok (.ireturn, 1) := by decide +kernel
theorem dX2_tick_13 : decode cX2_tick 13 = .ok (.iconst 0, 1) := by decide +kernel
theorem dX2_tick_14 : decode cX2_tick 14 = .ok (.istore_n 2, 1) := by decide +kernel
theorem dX2_tick_15 : decode cX2_tick 15 = .ok (.iconst 0, 1) := by decide +kernel
theorem dX2_tick_16 : decode cX2_tick 16 = .ok (.istore_n 3, 1) := by decide +kernel
theorem dX2_tick_17 : decode cX2_tick 17 = .ok (.iload_n 3, 1) := by decide +kernel
theorem dX2_tick_18 : decode cX2_tick 18 = .ok (.iload_n 1, 1) := by decide +kernel
theorem dX2_tick_19 : decode cX2_tick 19 = .ok (.if_icmp .ge 61, 3) := by decide +kernel
theorem dX2_tick_22 : decode cX2_tick 22 = .ok (.iconst 0, 1) := by decide +kernel
theorem dX2_tick_23 : decode cX2_tick 23 = .ok (.istore 4, 2) := by decide +kernel
theorem dX2_tick_25 : decode cX2_tick 25 = .ok (.iload 4, 2) := by decide +kernel
theorem dX2_tick_27 : decode cX2_tick 27 = .ok (.aload_n 0, 1) := by decide +kernel
theorem dX2_tick_28 : decode cX2_tick 28 = .ok (.getfield 55, 3) := by decide +kernel
theorem dX2_tick_31 : decode cX2_tick 31 = .ok (.if_icmp .ge 18, 3) := by decide +kernel
theorem dX2_tick_34 : decode cX2_tick 34 = .ok (.iload_n 2, 1) := by decide +kernel
theorem dX2_tick_35 : decode cX2_tick 35 = .ok (.aload_n 0, 1) := by decide +kernel
theorem dX2_tick_36 : decode cX2_tick 36 = .ok (.iload 4, 2) := by decide +kernel
theorem dX2_tick_38 : decode cX2_tick 38 = .ok (.invokevirtual 112, 3) := by decide +kernel
theorem dX2_tick_41 : decode cX2_tick 41 = .ok (.iadd, 1) := by decide +kernel
theorem dX2_tick_42 : decode cX2_tick 42 = .ok (.istore_n 2, 1) := by decide +kernel
theorem dX2_tick_43 : decode cX2_tick 43 = .ok (.iinc 4 1, 3) := by decide +kernel
theorem dX2_tick_46 : decode cX2_tick 46 = .ok (.goto (-21), 3) := by decide +kernel
theorem dX2_tick_49 : decode cX2_tick 49 = .ok (.aload_n 0, 1) := by decide +kernel
theorem dX2_tick_50 : decode cX2_tick 50 = .ok (.dup, 1) := by decide +kernel
theorem dX2_tick_51 : decode cX2_tick 51 = .ok (.getfield 78, 3) := by decide +kernel
theorem dX2_tick_54 : decode cX2_tick 54 = .ok (.aload_n 0, 1) := by decide +kernel
theorem dX2_tick_55 : decode cX2_tick 55 = .ok (.getfield 78, 3) := by decide +kernel
theorem dX2_tick_58 : decode cX2_tick 58 = .ok (.ifCond .le 7, 3) := by decide +kernel
theorem dX2_tick_61 : decode cX2_tick 61 = .ok (.iconst 1, 1) := by decide +kernel
theorem dX2_tick_62 : decode cX2_tick 62 = .ok (.goto 4, 3) := by decide +kernel
theorem dX2_tick_65 : decode cX2_tick 65 = .ok (.iconst 0, 1) := by decide +kernel
theorem dX2_tick_66 : decode cX2_tick 66 = .ok (.isub, 1) := by decide +kernel
theorem dX2_tick_67 : decode cX2_tick 67 = .ok (.putfield 78, 3) := by decide +kernel
theorem dX2_tick_70 : decode cX2_tick 70 = .ok (.aload_n 0, 1) := by decide +kernel
theorem dX2_tick_71 : decode cX2_tick 71 = .ok (.invokevirtual 106, 3) := by decide +kernel
theorem dX2_tick_74 : decode cX2_tick 74 = .ok (.iinc 3 1, 3) := by decide +kernel
theorem dX2_tick_77 : decode cX2_tick 77 = .ok (.goto (-60), 3) := by decide +kernel
theorem dX2_tick_80 : decode cX2_tick 80 = .ok (.iload_n 2, 1) := by decide +kernel
theorem dX2_tick_81 : decode cX2_tick 81 = .ok (.ireturn, 1) := by decide +kernel
theorem dX2_isDeferring_0 : decode cX2_isDeferring 0 = .ok (.aload_n 0, 1) := by decide +kernel
theorem dX2_isDeferring_1 : decode cX2_isDeferring 1 = .ok (.getfield 70, 3) := by decide +kernel
theorem dX2_isDeferring_4 : decode cX2_isDeferring 4 = .ok (.ifCond .eq 7, 3) := by decide +kernel
theorem dX2_isDeferring_7 : decode cX2_isDeferring 7 = .ok (.iconst 1, 1) := by decide +kernel
theorem dX2_isDeferring_8 : decode cX2_isDeferring 8 = .ok (.goto 4, 3) := by decide +kernel
theorem dX2_isDeferring_11 : decode cX2_isDeferring 11 = .ok (.iconst 0, 1) := by decide +kernel
theorem dX2_isDeferring_12 : decode cX2_isDeferring 12 = .ok (.ireturn, 1) := by decide +kernel
theorem dX2_deferralTimer_0 : decode cX2_deferralTimer 0 = .ok (.aload_n 0, 1) := by decide +kernel
theorem dX2_deferralTimer_1 : decode cX2_deferralTimer 1 = .ok (.getfield 78, 3) := by decide +kernel
theorem dX2_deferralTimer_4 : decode cX2_deferralTimer 4 = .ok (.ireturn, 1) := by decide +kernel
set_option maxRecDepth 20000 in
theorem ggX2_waitingPeers_X2_waiting : GoodIn wsX2_waitingPeers wsX2_waiting := goodIn_r _ [6, 7, 8, 9, 10, 11, 12, 13, 14, 15, 16, 17, 18, 19, 20, 21, 22, 23, 24, 25, 26] (by decide +kernel) (by decide +kernel)
set_option maxRecDepth 20000 in
theorem gX2_waitingPeers_X2_waiting : GoodIn wsX2_waitingPeers (wsV RX2 74 RX2 yX2_waiting wsX2_waiting) := goodIn_app (goodIn_of _ (by decide +kernel)) ggX2_waitingPeers_X2_waiting
theorem dX2_waitingPeers_0 : decode cX2_waitingPeers 0 = .ok (.aload_n 0, 1) := by decide +kernel
theorem dX2_waitingPeers_1 : decode cX2_waitingPeers 1 = .ok (.getfield 70, 3) := by decide +kernel
theorem dX2_waitingPeers_4 : decode cX2_waitingPeers 4 = .ok (.ifCond .eq 10, 3) := by decide +kernel
theorem dX2_waitingPeers_7 : decode cX2_waitingPeers 7 = .ok (.aload_n 0, 1) := by decide +kernel
theorem dX2_waitingPeers_8 : decode cX2_waitingPeers 8 = .ok (.invokevirtual 74, 3) := by decide +kernel
theorem dX2_waitingPeers_11 : decode cX2_waitingPeers 11 = .ok (.goto 4, 3) := by decide +kernel
theorem dX2_waitingPeers_14 : decode cX2_waitingPeers 14 = .ok (.iconst 0, 1) := by decide +kernel
theorem dX2_waitingPeers_15 : decode cX2_waitingPeers 15 = .ok (.ireturn, 1) := by decide +kernel
set_option maxRecDepth 20000 in
theorem ggX2_nextHop_X2_isRoute : GoodIn wsX2_nextHop wsX2_isRoute := goodIn_r _ [5, 6, 7, 4, 8] (by decide +kernel) (by decide +kernel)
set_option maxRecDepth 20000 in
theorem gX2_nextHop_X2_isRoute : GoodIn wsX2_nextHop (va_wsS RX2 92 yX2_isRoute wsX2_isRoute) := goodIn_app (goodIn_of _ (by decide +kernel)) ggX2_nextHop_X2_isRoute
theorem dX2_nextHop_0 : decode cX2_nextHop 0 = .ok (.iload_n 1, 1) := by decide +kernel
theorem dX2_nextHop_1 : decode cX2_nextHop 1 = .ok (.iload_n 2, 1) := by decide +kernel
theorem dX2_nextHop_2 : decode cX2_nextHop 2 = .ok (.invokestatic 92, 3) := by decide +kernel
theorem dX2_nextHop_5 : decode cX2_nextHop 5 = .ok (.ifCond .eq 17, 3) := by decide +kernel
theorem dX2_nextHop_8 : decode cX2_nextHop 8 = .ok (.aload_n 0, 1) := by decide +kernel
theorem dX2_nextHop_9 : decode cX2_nextHop 9 = .ok (.getfield 45, 3) := by decide +kernel
theorem dX2_nextHop_12 : decode cX2_nextHop 12 = .ok (.bipush 8, 2) := by decide +kernel
theorem dX2_nextHop_14 : decode cX2_nextHop 14 = .ok (.iload_n 1, 1) := by decide +kernel
theorem dX2_nextHop_15 : decode cX2_nextHop 15 = .ok (.imul, 1) := by decide +kernel
theorem dX2_nextHop_16 : decode cX2_nextHop 16 = .ok (.iload_n 2, 1) := by decide +kernel
theorem dX2_nextHop_17 : decode cX2_nextHop 17 = .ok (.iadd, 1) := by decide +kernel
theorem dX2_nextHop_18 : decode cX2_nextHop 18 = .ok (.iaload, 1) := by decide +kernel
theorem dX2_nextHop_19 : decode cX2_nextHop 19 = .ok (.goto 5, 3) := by decide +kernel
theorem dX2_nextHop_22 : decode cX2_nextHop 22 = .ok (.bipush (-2), 2) := by decide +kernel
theorem dX2_nextHop_24 : decode cX2_nextHop 24 = .ok (.ireturn, 1) := by decide +kernel
set_option maxRecDepth 20000 in
theorem ggX2_isEntryStale_X2_isRoute : GoodIn wsX2_isEntryStale wsX2_isRoute := goodIn_r _ [6, 7, 8, 5, 9] (by decide +kernel) (by decide +kernel)
set_option maxRecDepth 20000 in
theorem gX2_isEntryStale_X2_isRoute : GoodIn wsX2_isEntryStale (va_wsS RX2 92 yX2_isRoute wsX2_isRoute) := goodIn_app (goodIn_of _ (by decide +kernel)) ggX2_isEntryStale_X2_isRoute
theorem dX2_isEntryStale_0 : decode cX2_isEntryStale 0 = .ok (.iload_n 1, 1) := by decide +kernel
theorem dX2_isEntryStale_1 : decode cX2_isEntryStale 1 = .ok (.iload_n 2, 1) := by decide +kernel
theorem dX2_isEntryStale_2 : decode cX2_isEntryStale 2 = .ok (.invokestatic 92, 3) := by decide +kernel
theorem dX2_isEntryStale_5 : decode cX2_isEntryStale 5 = .ok (.ifCond .ne 6, 3) := by decide +kernel
theorem dX2_isEntryStale_8 : decode cX2_isEntryStale 8 = .ok (.bipush (-2), 2) := by decide +kernel
theorem dX2_isEntryStale_10 : decode cX2_isEntryStale 10 = .ok (.ireturn, 1) := by decide +kernel
theorem dX2_isEntryStale_11 : decode cX2_isEntryStale 11 = .ok (.bipush 8, 2) := by decide +kernel
theorem dX2_isEntryStale_13 : decode cX2_isEntryStale 13 = .ok (.iload_n 1, 1) := by decide +kernel
theorem dX2_isEntryStale_14 : decode cX2_isEntryStale 14 = .ok (.imul, 1) := by decide +kernel
theorem dX2_isEntryStale_15 : decode cX2_isEntryStale 15 = .ok (.iload_n 2, 1) := by decide +kernel
theorem dX2_isEntryStale_16 : decode cX2_isEntryStale 16 = .ok (.iadd, 1) := by decide +kernel
theorem dX2_isEntryStale_17 : decode cX2_isEntryStale 17 = .ok (.istore_n 3, 1) := by decide +kernel
theorem dX2_isEntryStale_18 : decode cX2_isEntryStale 18 = .ok (.aload_n 0, 1) := by decide +kernel
theorem dX2_isEntryStale_19 : decode cX2_isEntryStale 19 = .ok (.getfield 45, 3) := by decide +kernel
theorem dX2_isEntryStale_22 : decode cX2_isEntryStale 22 = .ok (.iload_n 3, 1) := by decide +kernel
theorem dX2_isEntryStale_23 : decode cX2_isEntryStale 23 = .ok (.iaload, 1) := by decide +kernel
theorem dX2_isEntryStale_24 : decode cX2_isEntryStale 24 = .ok (.bipush (-6), 2) := by decide +kernel
theorem dX2_isEntryStale_26 : decode cX2_isEntryStale 26 = .ok (.if_icmp .ne 8, 3) := by decide +kernel
theorem dX2_isEntryStale_29 : decode cX2_isEntryStale 29 = .ok (.bipush (-6), 2) := by decide +kernel
theorem dX2_isEntryStale_31 : decode cX2_isEntryStale 31 = .ok (.goto 17, 3) := by decide +kernel
theorem dX2_isEntryStale_34 : decode cX2_isEntryStale 34 = .ok (.aload_n 0, 1) := by decide +kernel
theorem dX2_isEntryStale_35 : decode cX2_isEntryStale 35 = .ok (.getfield 48, 3) := by decide +kernel
theorem dX2_isEntryStale_38 : decode cX2_isEntryStale 38 = .ok (.iload_n 3, 1) := by decide +kernel
theorem dX2_isEntryStale_39 : decode cX2_isEntryStale 39 = .ok (.baload, 1) := by decide +kernel
theorem dX2_isEntryStale_40 : decode cX2_isEntryStale 40 = .ok (.ifCond .eq 7, 3) := by decide +kernel
theorem dX2_isEntryStale_43 : decode cX2_isEntryStale 43 = .ok (.iconst 1, 1) := by decide +kernel
theorem dX2_isEntryStale_44 : decode cX2_isEntryStale 44 = .ok (.goto 4, 3) := by decide +kernel
theorem dX2_isEntryStale_47 : decode cX2_isEntryStale 47 = .ok (.iconst 0, 1) := by decide +kernel
theorem dX2_isEntryStale_48 : decode cX2_isEntryStale 48 = .ok (.ireturn, 1) := by decide +kernel
set_option maxRecDepth 20000 in
theorem ggX2_sessionState_X2_isPeer : GoodIn wsX2_sessionState wsX2_isPeer := goodIn_r _ [6, 7, 8, 9, 5, 10, 11, 12, 13, 14, 15, 16, 17, 18, 19, 20, 21, 22, 23, 24, 25, 26] (by decide +kernel) (by decide +kernel)
set_option maxRecDepth 20000 in
theorem gX2_sessionState_X2_isPeer : GoodIn wsX2_sessionState (wsV RX2 88 RX2 yX2_isPeer wsX2_isPeer) := goodIn_app (goodIn_of _ (by decide +kernel)) ggX2_sessionState_X2_isPeer
theorem dX2_sessionState_0 : decode cX2_sessionState 0 = .ok (.aload_n 0, 1) := by decide +kernel
theorem dX2_sessionState_1 : decode cX2_sessionState 1 = .ok (.iload_n 1, 1) := by decide +kernel
theorem dX2_sessionState_2 : decode cX2_sessionState 2 = .ok (.invokevirtual 88, 3) := by decide +kernel
theorem dX2_sessionState_5 : decode cX2_sessionState 5 = .ok (.ifCond .eq 12, 3) := by decide +kernel
theorem dX2_sessionState_8 : decode cX2_sessionState 8 = .ok (.aload_n 0, 1) := by decide +kernel
theorem dX2_sessionState_9 : decode cX2_sessionState 9 = .ok (.getfield 23, 3) := by decide +kernel
theorem dX2_sessionState_12 : decode cX2_sessionState 12 = .ok (.iload_n 1, 1) := by decide +kernel
theorem dX2_sessionState_13 : decode cX2_sessionState 13 = .ok (.iaload, 1) := by decide +kernel
theorem dX2_sessionState_14 : decode cX2_sessionState 14 = .ok (.goto 4, 3) := by decide +kernel
theorem dX2_sessionState_17 : decode cX2_sessionState 17 = .ok (.iconst (-1), 1) := by decide +kernel
theorem dX2_sessionState_18 : decode cX2_sessionState 18 = .ok (.ireturn, 1) := by decide +kernel
set_option maxRecDepth 20000 in
theorem ggX2_restartTimer_X2_isPeer : GoodIn wsX2_restartTimer wsX2_isPeer := goodIn_r _ [6, 7, 8, 9, 5, 10, 11, 12, 13, 14, 15, 16, 17, 18, 19, 20, 21, 22, 23, 24, 25, 26] (by decide +kernel) (by decide +kernel)
set_option maxRecDepth 20000 in
theorem gX2_restartTimer_X2_isPeer : GoodIn wsX2_restartTimer (wsV RX2 88 RX2 yX2_isPeer wsX2_isPeer) := goodIn_app (goodIn_of _ (by decide +kernel)) ggX2_restartTimer_X2_isPeer
theorem dX2_restartTimer_0 : decode cX2_restartTimer 0 = .ok (.aload_n 0, 1) := by decide +kernel
theorem dX2_restartTimer_1 : decode cX2_restartTimer 1 = .ok (.iload_n 1, 1) := by decide +kernel
theorem dX2_restartTimer_2 : decode cX2_restartTimer 2 = .ok (.invokevirtual 88, 3) := by decide +kernel
theorem dX2_restartTimer_5 : decode cX2_restartTimer 5 = .ok (.ifCond .eq 12, 3) := by decide +kernel
theorem dX2_restartTimer_8 : decode cX2_restartTimer 8 = .ok (.aload_n 0, 1) := by decide +kernel
theorem dX2_restartTimer_9 : decode cX2_restartTimer 9 = .ok (.getfield 27, 3) := by decide +kernel
theorem dX2_restartTimer_12 : decode cX2_restartTimer 12 = .ok (.iload_n 1, 1) := by decide +kernel
theorem dX2_restartTimer_13 : decode cX2_restartTimer 13 = .ok (.iaload, 1) := by decide +kernel
theorem dX2_restartTimer_14 : decode cX2_restartTimer 14 = .ok (.goto 4, 3) := by decide +kernel
theorem dX2_restartTimer_17 : decode cX2_restartTimer 17 = .ok (.iconst (-1), 1) := by decide +kernel
theorem dX2_restartTimer_18 : decode cX2_restartTimer 18 = .ok (.ireturn, 1) := by decide +kernel
set_option maxRecDepth 20000 in
theorem ggX2_staleTimer_X2_isPeer : GoodIn wsX2_staleTimer wsX2_isPeer := goodIn_r _ [6, 7, 8, 9, 5, 10, 11, 12, 13, 14, 15, 16, 17, 18, 19, 20, 21, 22, 23, 24, 25, 26] (by decide +kernel) (by decide +kernel)
set_option maxRecDepth 20000 in
theorem gX2_staleTimer_X2_isPeer : GoodIn wsX2_staleTimer (wsV RX2 88 RX2 yX2_isPeer wsX2_isPeer) := goodIn_app (goodIn_of _ (by decide +kernel)) ggX2_staleTimer_X2_isPeer
theorem dX2_staleTimer_0 : decode cX2_staleTimer 0 = .ok (.aload_n 0, 1) := by decide +kernel
theorem dX2_staleTimer_1 : decode cX2_staleTimer 1 = .ok (.iload_n 1, 1) := by decide +kernel
theorem dX2_staleTimer_2 : decode cX2_staleTimer 2 = .ok (.invokevirtual 88, 3) := by decide +kernel
theorem dX2_staleTimer_5 : decode cX2_staleTimer 5 = .ok (.ifCond .eq 12, 3) := by decide +kernel
theorem dX2_staleTimer_8 : decode cX2_staleTimer 8 = .ok (.aload_n 0, 1) := by decide +kernel
theorem dX2_staleTimer_9 : decode cX2_staleTimer 9 = .ok (.getfield 30, 3) := by decide +kernel
theorem dX2_staleTimer_12 : decode cX2_staleTimer 12 = .ok (.iload_n 1, 1) := by decide +kernel
theorem dX2_staleTimer_13 : decode cX2_staleTimer 13 = .ok (.iaload, 1) := by decide +kernel
theorem dX2_staleTimer_14 : decode cX2_staleTimer 14 = .ok (.goto 4, 3) := by decide +kernel
theorem dX2_staleTimer_17 : decode cX2_staleTimer 17 = .ok (.iconst (-1), 1) := by decide +kernel
theorem dX2_staleTimer_18 : decode cX2_staleTimer 18 = .ok (.ireturn, 1) := by decide +kernel
set_option maxRecDepth 20000 in
theorem ggX2_learnedLength_X2_refused : GoodIn wsX2_learnedLength wsX2_refused := goodIn_r _ [6, 7, 8, 9, 5, 10, 11, 12, 13, 14, 15, 16, 17, 18, 19, 20, 21, 22, 23, 24, 25, 26, 27, 28, 29, 30, 31, 32, 33] (by decide +kernel) (by decide +kernel)
set_option maxRecDepth 20000 in
theorem gX2_learnedLength_X2_refused : GoodIn wsX2_learnedLength (wsV RX2 96 RX2 yX2_refused wsX2_refused) := goodIn_app (goodIn_of _ (by decide +kernel)) ggX2_learnedLength_X2_refused
theorem dX2_learnedLength_0 : decode cX2_learnedLength 0 = .ok (.aload_n 0, 1) := by decide +kernel
theorem dX2_learnedLength_1 : decode cX2_learnedLength 1 = .ok (.iload_n 1, 1) := by decide +kernel
theorem dX2_learnedLength_2 : decode cX2_learnedLength 2 = .ok (.iload_n 2, 1) := by decide +kernel
theorem dX2_learnedLength_3 : decode cX2_learnedLength 3 = .ok (.iload_n 3, 1) := by decide +kernel
theorem dX2_learnedLength_4 : decode cX2_learnedLength 4 = .ok (.invokevirtual 96, 3) := by decide +kernel
theorem dX2_learnedLength_7 : decode cX2_learnedLength 7 = .ok (.istore 4, 2) := by decide +kernel
theorem dX2_learnedLength_9 : decode cX2_learnedLength 9 = .ok (.iload 4, 2) := by decide +kernel
theorem dX2_learnedLength_11 : decode cX2_learnedLength 11 = .ok (.ifCond .eq 6, 3) := by decide +kernel
theorem dX2_learnedLength_14 : decode cX2_learnedLength 14 = .ok (.iload 4, 2) := by decide +kernel
theorem dX2_learnedLength_16 : decode cX2_learnedLength 16 = .ok (.ireturn, 1) := by decide +kernel
theorem dX2_learnedLength_17 : decode cX2_learnedLength 17 = .ok (.aload_n 0, 1) := by decide +kernel
theorem dX2_learnedLength_18 : decode cX2_learnedLength 18 = .ok (.getfield 39, 3) := by decide +kernel
theorem dX2_learnedLength_21 : decode cX2_learnedLength 21 = .ok (.bipush 16, 2) := by decide +kernel
theorem dX2_learnedLength_23 : decode cX2_learnedLength 23 = .ok (.iload_n 1, 1) := by decide +kernel
theorem dX2_learnedLength_24 : decode cX2_learnedLength 24 = .ok (.imul, 1) := by decide +kernel
theorem dX2_learnedLength_25 : decode cX2_learnedLength 25 = .ok (.bipush 8, 2) := by decide +kernel
theorem dX2_learnedLength_27 : decode cX2_learnedLength 27 = .ok (.iload_n 2, 1) := by decide +kernel
theorem dX2_learnedLength_28 : decode cX2_learnedLength 28 = .ok (.imul, 1) := by decide +kernel
theorem dX2_learnedLength_29 : decode cX2_learnedLength 29 = .ok (.iadd, 1) := by decide +kernel
theorem dX2_learnedLength_30 : decode cX2_learnedLength 30 = .ok (.iload_n 3, 1) := by decide +kernel
theorem dX2_learnedLength_31 : decode cX2_learnedLength 31 = .ok (.iadd, 1) := by decide +kernel
theorem dX2_learnedLength_32 : decode cX2_learnedLength 32 = .ok (.iaload, 1) := by decide +kernel
theorem dX2_learnedLength_33 : decode cX2_learnedLength 33 = .ok (.istore 5, 2) := by decide +kernel
theorem dX2_learnedLength_35 : decode cX2_learnedLength 35 = .ok (.iload 5, 2) := by decide +kernel
theorem dX2_learnedLength_37 : decode cX2_learnedLength 37 = .ok (.ifCond .ne 8, 3) := by decide +kernel
theorem dX2_learnedLength_40 : decode cX2_learnedLength 40 = .ok (.bipush (-6), 2) := by decide +kernel
theorem dX2_learnedLength_42 : decode cX2_learnedLength 42 = .ok (.goto 5, 3) := by decide +kernel
theorem dX2_learnedLength_45 : decode cX2_learnedLength 45 = .ok (.iload 5, 2) := by decide +kernel
theorem dX2_learnedLength_47 : decode cX2_learnedLength 47 = .ok (.ireturn, 1) := by decide +kernel
set_option maxRecDepth 20000 in
theorem ggX2_isLearnedStale_X2_refused : GoodIn wsX2_isLearnedStale wsX2_refused := goodIn_r _ [7, 8, 9, 10, 6, 11, 12, 13, 14, 15, 16, 17, 18, 19, 20, 21, 22, 23, 24, 25, 26, 27, 28, 29, 30, 31, 32, 33, 34] (by decide +kernel) (by decide +kernel)
set_option maxRecDepth 20000 in
theorem gX2_isLearnedStale_X2_refused : GoodIn wsX2_isLearnedStale (wsV RX2 96 RX2 yX2_refused wsX2_refused) := goodIn_app (goodIn_of _ (by decide +kernel)) ggX2_isLearnedStale_X2_refused
theorem dX2_isLearnedStale_0 : decode cX2_isLearnedStale 0 = .ok (.aload_n 0, 1) := by decide +kernel
theorem dX2_isLearnedStale_1 : decode cX2_isLearnedStale 1 = .ok (.iload_n 1, 1) := by decide +kernel
theorem dX2_isLearnedStale_2 : decode cX2_isLearnedStale 2 = .ok (.iload_n 2, 1) := by decide +kernel
theorem dX2_isLearnedStale_3 : decode cX2_isLearnedStale 3 = .ok (.iload_n 3, 1) := by decide +kernel
theorem dX2_isLearnedStale_4 : decode cX2_isLearnedStale 4 = .ok (.invokevirtual 96, 3) := by decide +kernel
theorem dX2_isLearnedStale_7 : decode cX2_isLearnedStale 7 = .ok (.istore 4, 2) := by decide +kernel
theorem dX2_isLearnedStale_9 : decode cX2_isLearnedStale 9 = .ok (.iload 4, 2) := by decide +kernel
theorem dX2_isLearnedStale_11 : decode cX2_isLearnedStale 11 = .ok (.ifCond .eq 6, 3) := by decide +kernel
theorem dX2_isLearnedStale_14 : decode cX2_isLearnedStale 14 = .ok (.iload 4, 2) := by decide +kernel
theorem dX2_isLearnedStale_16 : decode cX2_isLearnedStale 16 = .ok (.ireturn, 1) := by decide +kernel
theorem dX2_isLearnedStale_17 : decode cX2_isLearnedStale 17 = .ok (.bipush 16, 2) := by decide +kernel
theorem dX2_isLearnedStale_19 : decode cX2_isLearnedStale 19 = .ok (.iload_n 1, 1) := by decide +kernel
theorem dX2_isLearnedStale_20 : decode cX2_isLearnedStale 20 = .ok (.imul, 1) := by decide +kernel
theorem dX2_isLearnedStale_21 : decode cX2_isLearnedStale 21 = .ok (.bipush 8, 2) := by decide +kernel
theorem dX2_isLearnedStale_23 : decode cX2_isLearnedStale 23 = .ok (.iload_n 2, 1) := by decide +kernel
theorem dX2_isLearnedStale_24 : decode cX2_isLearnedStale 24 = .ok (.imul, 1) := by decide +kernel
theorem dX2_isLearnedStale_25 : decode cX2_isLearnedStale 25 = .ok (.iadd, 1) := by decide +kernel
theorem dX2_isLearnedStale_26 : decode cX2_isLearnedStale 26 = .ok (.iload_n 3, 1) := by decide +kernel
theorem dX2_isLearnedStale_27 : decode cX2_isLearnedStale 27 = .ok (.iadd, 1) := by decide +kernel
theorem dX2_isLearnedStale_28 : decode cX2_isLearnedStale 28 = .ok (.istore 5, 2) := by decide +kernel
theorem dX2_isLearnedStale_30 : decode cX2_isLearnedStale 30 = .ok (.aload_n 0, 1) := by decide +kernel
theorem dX2_isLearnedStale_31 : decode cX2_isLearnedStale 31 = .ok (.getfield 39, 3) := by decide +kernel
theorem dX2_isLearnedStale_34 : decode cX2_isLearnedStale 34 = .ok (.iload 5, 2) := by decide +kernel
theorem dX2_isLearnedStale_36 : decode cX2_isLearnedStale 36 = .ok (.iaload, 1) := by decide +kernel
theorem dX2_isLearnedStale_37 : decode cX2_isLearnedStale 37 = .ok (.ifCond .ne 8, 3) := by decide +kernel
theorem dX2_isLearnedStale_40 : decode cX2_isLearnedStale 40 = .ok (.bipush (-6), 2) := by decide +kernel
theorem dX2_isLearnedStale_42 : decode cX2_isLearnedStale 42 = .ok (.goto 18, 3) := by decide +kernel
theorem dX2_isLearnedStale_45 : decode cX2_isLearnedStale 45 = .ok (.aload_n 0, 1) := by decide +kernel
theorem dX2_isLearnedStale_46 : decode cX2_isLearnedStale 46 = .ok (.getfield 42, 3) := by decide +kernel
theorem dX2_isLearnedStale_49 : decode cX2_isLearnedStale 49 = .ok (.iload 5, 2) := by decide +kernel
theorem dX2_isLearnedStale_51 : decode cX2_isLearnedStale 51 = .ok (.baload, 1) := by decide +kernel
theorem dX2_isLearnedStale_52 : decode cX2_isLearnedStale 52 = .ok (.ifCond .eq 7, 3) := by decide +kernel
theorem dX2_isLearnedStale_55 : decode cX2_isLearnedStale 55 = .ok (.iconst 1, 1) := by decide +kernel
theorem dX2_isLearnedStale_56 : decode cX2_isLearnedStale 56 = .ok (.goto 4, 3) := by decide +kernel
theorem dX2_isLearnedStale_59 : decode cX2_isLearnedStale 59 = .ok (.iconst 0, 1) := by decide +kernel
theorem dX2_isLearnedStale_60 : decode cX2_isLearnedStale 60 = .ok (.ireturn, 1) := by decide +kernel
theorem dX2_forwards_0 : decode cX2_forwards 0 = .ok (.aload_n 0, 1) := by decide +kernel
theorem dX2_forwards_1 : decode cX2_forwards 1 = .ok (.getfield 39, 3) := by decide +kernel
theorem dX2_forwards_4 : decode cX2_forwards 4 = .ok (.bipush 16, 2) := by decide +kernel
theorem dX2_forwards_6 : decode cX2_forwards 6 = .ok (.iload_n 1, 1) := by decide +kernel
theorem dX2_forwards_7 : decode cX2_forwards 7 = .ok (.imul, 1) := by decide +kernel
theorem dX2_forwards_8 : decode cX2_forwards 8 = .ok (.iload_n 2, 1) := by decide +kernel
theorem dX2_forwards_9 : decode cX2_forwards 9 = .ok (.iadd, 1) := by decide +kernel
theorem dX2_forwards_10 : decode cX2_forwards 10 = .ok (.iaload, 1) := by decide +kernel
theorem dX2_forwards_11 : decode cX2_forwards 11 = .ok (.ifCond .ne 6, 3) := by decide +kernel
theorem dX2_forwards_14 : decode cX2_forwards 14 = .ok (.bipush (-6), 2) := by decide +kernel
theorem dX2_forwards_16 : decode cX2_forwards 16 = .ok (.ireturn, 1) := by decide +kernel
theorem dX2_forwards_17 : decode cX2_forwards 17 = .ok (.aload_n 0, 1) := by decide +kernel
theorem dX2_forwards_18 : decode cX2_forwards 18 = .ok (.getfield 45, 3) := by decide +kernel
theorem dX2_forwards_21 : decode cX2_forwards 21 = .ok (.iload_n 2, 1) := by decide +kernel
theorem dX2_forwards_22 : decode cX2_forwards 22 = .ok (.iaload, 1) := by decide +kernel
theorem dX2_forwards_23 : decode cX2_forwards 23 = .ok (.bipush (-6), 2) := by decide +kernel
theorem dX2_forwards_25 : decode cX2_forwards 25 = .ok (.if_icmp .ne 8, 3) := by decide +kernel
theorem dX2_forwards_28 : decode cX2_forwards 28 = .ok (.bipush (-7), 2) := by decide +kernel
theorem dX2_forwards_30 : decode cX2_forwards 30 = .ok (.goto 24, 3) := by decide +kernel
theorem dX2_forwards_33 : decode cX2_forwards 33 = .ok (.aload_n 0, 1) := by decide +kernel
theorem dX2_forwards_34 : decode cX2_forwards 34 = .ok (.getfield 45, 3) := by decide +kernel
theorem dX2_forwards_37 : decode cX2_forwards 37 = .ok (.iload_n 2, 1) := by decide +kernel
theorem dX2_forwards_38 : decode cX2_forwards 38 = .ok (.iaload, 1) := by decide +kernel
theorem dX2_forwards_39 : decode cX2_forwards 39 = .ok (.iload_n 1, 1) := by decide +kernel
theorem dX2_forwards_40 : decode cX2_forwards 40 = .ok (.if_icmp .ne 8, 3) := by decide +kernel
theorem dX2_forwards_43 : decode cX2_forwards 43 = .ok (.bipush (-8), 2) := by decide +kernel
theorem dX2_forwards_45 : decode cX2_forwards 45 = .ok (.goto 9, 3) := by decide +kernel
theorem dX2_forwards_48 : decode cX2_forwards 48 = .ok (.aload_n 0, 1) := by decide +kernel
theorem dX2_forwards_49 : decode cX2_forwards 49 = .ok (.getfield 45, 3) := by decide +kernel
theorem dX2_forwards_52 : decode cX2_forwards 52 = .ok (.iload_n 2, 1) := by decide +kernel
theorem dX2_forwards_53 : decode cX2_forwards 53 = .ok (.iaload, 1) := by decide +kernel
theorem dX2_forwards_54 : decode cX2_forwards 54 = .ok (.ireturn, 1) := by decide +kernel
set_option maxRecDepth 20000 in
theorem ggX2_forward_X2_refused : GoodIn wsX2_forward wsX2_refused := goodIn_r _ [5, 6, 7, 8, 4, 9, 10, 11, 12, 13, 14, 15, 16, 23, 24, 25, 26, 27, 28, 29, 30, 31, 32, 33, 34, 35, 36, 37, 38] (by decide +kernel) (by decide +kernel)
set_option maxRecDepth 20000 in
theorem gX2_forward_X2_refused : GoodIn wsX2_forward (wsV RX2 96 RX2 yX2_refused wsX2_refused) := goodIn_app (goodIn_of _ (by decide +kernel)) ggX2_forward_X2_refused
set_option maxRecDepth 20000 in
theorem ggX2_forward_X2_forwards : GoodIn wsX2_forward wsX2_forwards := goodIn_r _ [20, 21, 22, 23, 24, 25, 26, 27, 28, 29, 30, 31, 32, 33, 34, 35, 36, 37, 38] (by decide +kernel) (by decide +kernel)
set_option maxRecDepth 20000 in
theorem gX2_forward_X2_forwards : GoodIn wsX2_forward (wsV RX2 115 RX2 yX2_forwards wsX2_forwards) := goodIn_app (goodIn_of _ (by decide +kernel)) ggX2_forward_X2_forwards
theorem dX2_forward_0 : decode cX2_forward 0 = .ok (.aload_n 0, 1) := by decide +kernel
theorem dX2_forward_1 : decode cX2_forward 1 = .ok (.iload_n 1, 1) := by decide +kernel
theorem dX2_forward_2 : decode cX2_forward 2 = .ok (.iload_n 2, 1) := by decide +kernel
theorem dX2_forward_3 : decode cX2_forward 3 = .ok (.iload_n 3, 1) := by decide +kernel
theorem dX2_forward_4 : decode cX2_forward 4 = .ok (.invokevirtual 96, 3) := by decide +kernel
theorem dX2_forward_7 : decode cX2_forward 7 = .ok (.istore 4, 2) := by decide +kernel
theorem dX2_forward_9 : decode cX2_forward 9 = .ok (.iload 4, 2) := by decide +kernel
theorem dX2_forward_11 : decode cX2_forward 11 = .ok (.ifCond .eq 8, 3) := by decide +kernel
theorem dX2_forward_14 : decode cX2_forward 14 = .ok (.iload 4, 2) := by decide +kernel
theorem dX2_forward_16 : decode cX2_forward 16 = .ok (.goto 14, 3) := by decide +kernel
theorem dX2_forward_19 : decode cX2_forward 19 = .ok (.aload_n 0, 1) := by decide +kernel
theorem dX2_forward_20 : decode cX2_forward 20 = .ok (.iload_n 1, 1) := by decide +kernel
theorem dX2_forward_21 : decode cX2_forward 21 = .ok (.bipush 8, 2) := by decide +kernel
theorem dX2_forward_23 : decode cX2_forward 23 = .ok (.iload_n 2, 1) := by decide +kernel
theorem dX2_forward_24 : decode cX2_forward 24 = .ok (.imul, 1) := by decide +kernel
theorem dX2_forward_25 : decode cX2_forward 25 = .ok (.iload_n 3, 1) := by decide +kernel
theorem dX2_forward_26 : decode cX2_forward 26 = .ok (.iadd, 1) := by decide +kernel
theorem dX2_forward_27 : decode cX2_forward 27 = .ok (.invokevirtual 115, 3) := by decide +kernel
theorem dX2_forward_30 : decode cX2_forward 30 = .ok (.ireturn, 1) := by decide +kernel
set_option maxRecDepth 20000 in
theorem ggX2_reachableCount_X2_isPeer : GoodIn wsX2_reachableCount wsX2_isPeer := goodIn_r _ [5, 6, 7, 8, 4, 9, 16, 17, 18, 19, 20, 21, 22, 23, 24, 25, 26, 27, 28, 29, 30, 31] (by decide +kernel) (by decide +kernel)
set_option maxRecDepth 20000 in
theorem gX2_reachableCount_X2_isPeer : GoodIn wsX2_reachableCount (wsV RX2 88 RX2 yX2_isPeer wsX2_isPeer) := goodIn_app (goodIn_of _ (by decide +kernel)) ggX2_reachableCount_X2_isPeer
set_option maxRecDepth 20000 in
theorem ggX2_reachableCount_X2_forwards : GoodIn wsX2_reachableCount wsX2_forwards := goodIn_r _ [13, 14, 15, 16, 17, 18, 19, 20, 21, 22, 23, 24, 25, 26, 27, 28, 29, 30, 31] (by decide +kernel) (by decide +kernel)
set_option maxRecDepth 20000 in
theorem gX2_reachableCount_X2_forwards : GoodIn wsX2_reachableCount (wsV RX2 115 RX2 yX2_forwards wsX2_forwards) := goodIn_app (goodIn_of _ (by decide +kernel)) ggX2_reachableCount_X2_forwards
theorem dX2_reachableCount_0 : decode cX2_reachableCount 0 = .ok (.aload_n 0, 1) := by decide +kernel
theorem dX2_reachableCount_1 : decode cX2_reachableCount 1 = .ok (.iload_n 1, 1) := by decide +kernel
theorem dX2_reachableCount_2 : decode cX2_reachableCount 2 = .ok (.invokevirtual 88, 3) := by decide +kernel
theorem dX2_reachableCount_5 : decode cX2_reachableCount 5 = .ok (.ifCond .ne 5, 3) := by decide +kernel
theorem dX2_reachableCount_8 : decode cX2_reachableCount 8 = .ok (.iconst (-1), 1) := by decide +kernel
theorem dX2_reachableCount_9 : decode cX2_reachableCount 9 = .ok (.ireturn, 1) := by decide +kernel
theorem dX2_reachableCount_10 : decode cX2_reachableCount 10 = .ok (.iconst 0, 1) := by decide +kernel
theorem dX2_reachableCount_11 : decode cX2_reachableCount 11 = .ok (.istore_n 2, 1) := by decide +kernel
theorem dX2_reachableCount_12 : decode cX2_reachableCount 12 = .ok (.iconst 0, 1) := by decide +kernel
theorem dX2_reachableCount_13 : decode cX2_reachableCount 13 = .ok (.istore_n 3, 1) := by decide +kernel
theorem dX2_reachableCount_14 : decode cX2_reachableCount 14 = .ok (.iload_n 3, 1) := by decide +kernel
theorem dX2_reachableCount_15 : decode cX2_reachableCount 15 = .ok (.bipush 16, 2) := by decide +kernel
theorem dX2_reachableCount_17 : decode cX2_reachableCount 17 = .ok (.if_icmp .ge 26, 3) := by decide +kernel
theorem dX2_reachableCount_20 : decode cX2_reachableCount 20 = .ok (.iload_n 2, 1) := by decide +kernel
theorem dX2_reachableCount_21 : decode cX2_reachableCount 21 = .ok (.aload_n 0, 1) := by decide +kernel
theorem dX2_reachableCount_22 : decode cX2_reachableCount 22 = .ok (.iload_n 1, 1) := by decide +kernel
theorem dX2_reachableCount_23 : decode cX2_reachableCount 23 = .ok (.iload_n 3, 1) := by decide +kernel
theorem dX2_reachableCount_24 : decode cX2_reachableCount 24 = .ok (.invokevirtual 115, 3) := by decide +kernel
theorem dX2_reachableCount_27 : decode cX2_reachableCount 27 = .ok (.ifCond .lt 7, 3) := by decide +kernel
theorem dX2_reachableCount_30 : decode cX2_reachableCount 30 = .ok (.iconst 1, 1) := by decide +kernel
theorem dX2_reachableCount_31 : decode cX2_reachableCount 31 = .ok (.goto 4, 3) := by decide +kernel
theorem dX2_reachableCount_34 : decode cX2_reachableCount 34 = .ok (.iconst 0, 1) := by decide +kernel
theorem dX2_reachableCount_35 : decode cX2_reachableCount 35 = .ok (.iadd, 1) := by decide +kernel
theorem dX2_reachableCount_36 : decode cX2_reachableCount 36 = .ok (.istore_n 2, 1) := by decide +kernel
theorem dX2_reachableCount_37 : decode cX2_reachableCount 37 = .ok (.iinc 3 1, 3) := by decide +kernel
theorem dX2_reachableCount_40 : decode cX2_reachableCount 40 = .ok (.goto (-26), 3) := by decide +kernel
theorem dX2_reachableCount_43 : decode cX2_reachableCount 43 = .ok (.iload_n 2, 1) := by decide +kernel
theorem dX2_reachableCount_44 : decode cX2_reachableCount 44 = .ok (.ireturn, 1) := by decide +kernel
set_option maxRecDepth 20000 in
theorem ggX2_loopCount_X2_forwards : GoodIn wsX2_loopCount wsX2_forwards := goodIn_r _ [6, 7, 8, 9, 10, 11, 12, 13, 14, 15, 16, 17, 18, 19, 20, 21, 22, 23, 24] (by decide +kernel) (by decide +kernel)
set_option maxRecDepth 20000 in
theorem gX2_loopCount_X2_forwards : GoodIn wsX2_loopCount (wsV RX2 115 RX2 yX2_forwards wsX2_forwards) := goodIn_app (goodIn_of _ (by decide +kernel)) ggX2_loopCount_X2_forwards
theorem dX2_loopCount_0 : decode cX2_loopCount 0 = .ok (.iconst 0, 1) := by decide +kernel
theorem dX2_loopCount_1 : decode cX2_loopCount 1 = .ok (.istore_n 1, 1) := by decide +kernel
theorem dX2_loopCount_2 : decode cX2_loopCount 2 = .ok (.iconst 0, 1) := by decide +kernel
theorem dX2_loopCount_3 : decode cX2_loopCount 3 = .ok (.istore_n 2, 1) := by decide +kernel
theorem dX2_loopCount_4 : decode cX2_loopCount 4 = .ok (.iload_n 2, 1) := by decide +kernel
theorem dX2_loopCount_5 : decode cX2_loopCount 5 = .ok (.bipush 16, 2) := by decide +kernel
theorem dX2_loopCount_7 : decode cX2_loopCount 7 = .ok (.aload_n 0, 1) := by decide +kernel
theorem dX2_loopCount_8 : decode cX2_loopCount 8 = .ok (.getfield 55, 3) := by decide +kernel
theorem dX2_loopCount_11 : decode cX2_loopCount 11 = .ok (.imul, 1) := by decide +kernel
theorem dX2_loopCount_12 : decode cX2_loopCount 12 = .ok (.if_icmp .ge 34, 3) := by decide +kernel
theorem dX2_loopCount_15 : decode cX2_loopCount 15 = .ok (.iload_n 1, 1) := by decide +kernel
theorem dX2_loopCount_16 : decode cX2_loopCount 16 = .ok (.aload_n 0, 1) := by decide +kernel
theorem dX2_loopCount_17 : decode cX2_loopCount 17 = .ok (.iload_n 2, 1) := by decide +kernel
theorem dX2_loopCount_18 : decode cX2_loopCount 18 = .ok (.bipush 16, 2) := by decide +kernel
theorem dX2_loopCount_20 : decode cX2_loopCount 20 = .ok (.idiv, 1) := by decide +kernel
theorem dX2_loopCount_21 : decode cX2_loopCount 21 = .ok (.iload_n 2, 1) := by decide +kernel
theorem dX2_loopCount_22 : decode cX2_loopCount 22 = .ok (.bipush 16, 2) := by decide +kernel
theorem dX2_loopCount_24 : decode cX2_loopCount 24 = .ok (.irem, 1) := by decide +kernel
theorem dX2_loopCount_25 : decode cX2_loopCount 25 = .ok (.invokevirtual 115, 3) := by decide +kernel
theorem dX2_loopCount_28 : decode cX2_loopCount 28 = .ok (.bipush (-8), 2) := by decide +kernel
theorem dX2_loopCount_30 : decode cX2_loopCount 30 = .ok (.if_icmp .ne 7, 3) := by decide +kernel
theorem dX2_loopCount_33 : decode cX2_loopCount 33 = .ok (.iconst 1, 1) := by decide +kernel
theorem dX2_loopCount_34 : decode cX2_loopCount 34 = .ok (.goto 4, 3) := by decide +kernel
theorem dX2_loopCount_37 : decode cX2_loopCount 37 = .ok (.iconst 0, 1) := by decide +kernel
theorem dX2_loopCount_38 : decode cX2_loopCount 38 = .ok (.iadd, 1) := by decide +kernel
theorem dX2_loopCount_39 : decode cX2_loopCount 39 = .ok (.istore_n 1, 1) := by decide +kernel
theorem dX2_loopCount_40 : decode cX2_loopCount 40 = .ok (.iinc 2 1, 3) := by decide +kernel
theorem dX2_loopCount_43 : decode cX2_loopCount 43 = .ok (.goto (-39), 3) := by decide +kernel
theorem dX2_loopCount_46 : decode cX2_loopCount 46 = .ok (.iload_n 1, 1) := by decide +kernel
theorem dX2_loopCount_47 : decode cX2_loopCount 47 = .ok (.ireturn, 1) := by decide +kernel
end
section
set_option maxRecDepth 20000 in
theorem ggL_law_X1_init : GoodIn wsL_law wsX1_init := goodIn_r _ [8, 9, 10, 11, 12, 13, 14, 15, 16, 17, 18, 19, 20, 21, 22, 23, 405, 406, 407, 408, 409, 410, 411, 412, 413] (by decide +kernel) (by decide +kernel)
set_option maxRecDepth 20000 in
theorem gL_law_X1_init : GoodIn wsL_law (wsX1_init) := ggL_law_X1_init
set_option maxRecDepth 20000 in
theorem ggL_law_X2_init : GoodIn wsL_law wsX2_init := goodIn_r _ [26, 27, 10, 11, 28, 29, 30, 16, 31, 14, 32, 33, 34, 35, 36, 37, 38, 39, 40, 414, 415, 416, 417, 418, 419, 420, 421, 422, 423, 424, 425, 426, 427, 428, 429] (by decide +kernel) (by decide +kernel)
set_option maxRecDepth 20000 in
theorem gL_law_X2_init : GoodIn wsL_law (wsX2_init) := ggL_law_X2_init
set_option maxRecDepth 20000 in
theorem ggL_law_X1_setRestartTime : GoodIn wsL_law wsX1_setRestartTime := goodIn_r _ [44, 19, 45, 46, 2, 47, 405, 406, 407, 408, 409, 410, 411, 412, 413] (by decide +kernel) (by decide +kernel)
set_option maxRecDepth 20000 in
theorem gL_law_X1_setRestartTime : GoodIn wsL_law (wsV RL 13 RX1 yX1_setRestartTime wsX1_setRestartTime) := goodIn_app (goodIn_of _ (by decide +kernel)) ggL_law_X1_setRestartTime
set_option maxRecDepth 20000 in
theorem ggL_law_X2_setRestartTime : GoodIn wsL_law wsX2_setRestartTime := goodIn_r _ [51, 28, 52, 53, 5, 54, 414, 415, 416, 417, 418, 419, 420, 421, 422, 423, 424, 425, 426, 427, 428, 429] (by decide +kernel) (by decide +kernel)
set_option maxRecDepth 20000 in
theorem gL_law_X2_setRestartTime : GoodIn wsL_law (wsV RL 17 RX2 yX2_setRestartTime wsX2_setRestartTime) := goodIn_app (goodIn_of _ (by decide +kernel)) ggL_law_X2_setRestartTime
set_option maxRecDepth 20000 in
theorem ggL_law_X1_setStaleTime : GoodIn wsL_law wsX1_setStaleTime := goodIn_r _ [58, 20, 45, 46, 2, 47, 405, 406, 407, 408, 409, 410, 411, 412, 413] (by decide +kernel) (by decide +kernel)
set_option maxRecDepth 20000 in
theorem gL_law_X1_setStaleTime : GoodIn wsL_law (wsV RL 18 RX1 yX1_setStaleTime wsX1_setStaleTime) := goodIn_app (goodIn_of _ (by decide +kernel)) ggL_law_X1_setStaleTime
set_option maxRecDepth 20000 in
theorem ggL_law_X2_setStaleTime : GoodIn wsL_law wsX2_setStaleTime := goodIn_r _ [62, 29, 52, 53, 5, 54, 414, 415, 416, 417, 418, 419, 420, 421, 422, 423, 424, 425, 426, 427, 428, 429] (by decide +kernel) (by decide +kernel)
set_option maxRecDepth 20000 in
theorem gL_law_X2_setStaleTime : GoodIn wsL_law (wsV RL 21 RX2 yX2_setStaleTime wsX2_setStaleTime) := goodIn_app (goodIn_of _ (by decide +kernel)) ggL_law_X2_setStaleTime
set_option maxRecDepth 20000 in
theorem ggL_law_X1_setDeferralTime : GoodIn wsL_law wsX1_setDeferralTime := goodIn_r _ [66, 21, 45, 46, 2, 47, 405, 406, 407, 408, 409, 410, 411, 412, 413] (by decide +kernel) (by decide +kernel)
set_option maxRecDepth 20000 in
theorem gL_law_X1_setDeferralTime : GoodIn wsL_law (wsV RL 22 RX1 yX1_setDeferralTime wsX1_setDeferralTime) := goodIn_app (goodIn_of _ (by decide +kernel)) ggL_law_X1_setDeferralTime
set_option maxRecDepth 20000 in
theorem ggL_law_X2_setDeferralTime : GoodIn wsL_law wsX2_setDeferralTime := goodIn_r _ [70, 30, 52, 53, 5, 54, 414, 415, 416, 417, 418, 419, 420, 421, 422, 423, 424, 425, 426, 427, 428, 429] (by decide +kernel) (by decide +kernel)
set_option maxRecDepth 20000 in
theorem gL_law_X2_setDeferralTime : GoodIn wsL_law (wsV RL 25 RX2 yX2_setDeferralTime wsX2_setDeferralTime) := goodIn_app (goodIn_of _ (by decide +kernel)) ggL_law_X2_setDeferralTime
set_option maxRecDepth 20000 in
theorem ggL_law_X1_addPeer : GoodIn wsL_law wsX1_addPeer := goodIn_r _ [74, 18, 13, 12, 75, 76, 22, 77, 78, 79, 10, 11, 80, 14, 81, 82, 16, 83, 84, 85, 86, 87, 88, 89, 90, 2, 91, 92, 93, 94, 95, 15, 17, 96, 97, 98, 99, 100, 101, 102, 103, 104, 105, 106, 107, 108, 405, 406, 407, 408, 409, 410, 411, 412, 413, 430, 431, 432, 433, 434, 435, 436, 437] (by decide +kernel) (by decide +kernel)
set_option maxRecDepth 20000 in
theorem gL_law_X1_addPeer : GoodIn wsL_law (wsV RL 26 RX1 yX1_addPeer wsX1_addPeer) := goodIn_app (goodIn_of _ (by decide +kernel)) ggL_law_X1_addPeer
set_option maxRecDepth 20000 in
theorem ggL_law_X2_addPeer : GoodIn wsL_law wsX2_addPeer := goodIn_r _ [112, 113, 31, 32, 114, 115, 116, 117, 5, 118, 119, 120, 121, 122, 39, 40, 123, 124, 125, 126, 36, 127, 128, 129, 130, 37, 38, 414, 415, 416, 417, 418, 419, 420, 421, 422, 423, 424, 425, 426, 427, 428, 429] (by decide +kernel) (by decide +kernel)
set_option maxRecDepth 20000 in
theorem gL_law_X2_addPeer : GoodIn wsL_law (wsV RL 30 RX2 yX2_addPeer wsX2_addPeer) := goodIn_app (goodIn_of _ (by decide +kernel)) ggL_law_X2_addPeer
set_option maxRecDepth 20000 in
theorem ggL_law_X1_announce : GoodIn wsL_law wsX1_announce := goodIn_r _ [134, 135, 136, 137, 2, 138, 13, 139, 140, 141, 142, 143, 144, 145, 22, 92, 93, 94, 95, 15, 17, 96, 76, 97, 98, 84, 81, 99, 100, 101, 102, 103, 104, 105, 83, 82, 106, 107, 108, 430, 431, 432, 433, 434, 435, 436, 437, 405, 406, 407, 408, 409, 410, 411, 412, 413] (by decide +kernel) (by decide +kernel)
set_option maxRecDepth 20000 in
theorem gL_law_X1_announce : GoodIn wsL_law (wsV RL 31 RX1 yX1_announce wsX1_announce) := goodIn_app (goodIn_of _ (by decide +kernel)) ggL_law_X1_announce
set_option maxRecDepth 20000 in
theorem ggL_law_X2_announce : GoodIn wsL_law wsX2_announce := goodIn_r _ [149, 36, 150, 151, 152, 5, 153, 154, 155, 156, 157, 113, 52, 53, 54, 158, 159, 160, 161, 162, 163, 164, 114, 32, 119, 120, 121, 122, 39, 40, 123, 124, 125, 126, 127, 128, 129, 130, 37, 38, 414, 415, 416, 417, 418, 419, 420, 421, 422, 423, 424, 425, 426, 427, 428, 429] (by decide +kernel) (by decide +kernel)
set_option maxRecDepth 20000 in
theorem gL_law_X2_announce : GoodIn wsL_law (wsV RL 35 RX2 yX2_announce wsX2_announce) := goodIn_app (goodIn_of _ (by decide +kernel)) ggL_law_X2_announce
set_option maxRecDepth 20000 in
theorem ggL_law_X1_withdraw : GoodIn wsL_law wsX1_withdraw := goodIn_r _ [168, 135, 136, 137, 2, 138, 13, 139, 140, 141, 142, 143, 144, 145, 22, 92, 93, 94, 95, 15, 17, 96, 76, 97, 98, 84, 81, 99, 100, 101, 102, 103, 104, 105, 83, 82, 106, 107, 108, 430, 431, 432, 433, 434, 435, 436, 437, 405, 406, 407, 408, 409, 410, 411, 412, 413] (by decide +kernel) (by decide +kernel)
set_option maxRecDepth 20000 in
theorem gL_law_X1_withdraw : GoodIn wsL_law (wsV RL 36 RX1 yX1_withdraw wsX1_withdraw) := goodIn_app (goodIn_of _ (by decide +kernel)) ggL_law_X1_withdraw
set_option maxRecDepth 20000 in
theorem ggL_law_X2_withdraw : GoodIn wsL_law wsX2_withdraw := goodIn_r _ [172, 36, 150, 151, 152, 5, 153, 154, 155, 156, 157, 113, 52, 53, 54, 158, 159, 160, 161, 162, 163, 164, 114, 32, 119, 120, 121, 122, 39, 40, 123, 124, 125, 126, 127, 128, 129, 130, 37, 38, 414, 415, 416, 417, 418, 419, 420, 421, 422, 423, 424, 425, 426, 427, 428, 429] (by decide +kernel) (by decide +kernel)
set_option maxRecDepth 20000 in
theorem gL_law_X2_withdraw : GoodIn wsL_law (wsV RL 40 RX2 yX2_withdraw wsX2_withdraw) := goodIn_app (goodIn_of _ (by decide +kernel)) ggL_law_X2_withdraw
set_option maxRecDepth 20000 in
theorem ggL_law_X1_restart : GoodIn wsL_law wsX1_restart := goodIn_r _ [176, 13, 19, 22, 21, 23, 177, 76, 178, 179, 80, 84, 83, 82, 86, 85, 180, 181, 182, 183, 184, 185, 186, 187, 188, 189, 190, 191, 192, 193, 194, 2, 195, 17, 196, 197, 198, 199, 15, 200, 201, 202, 203, 204, 205, 206, 207, 208, 209, 210, 87, 211, 212, 213, 214, 88, 89, 90, 91, 92, 93, 94, 95, 96, 97, 98, 81, 99, 100, 101, 102, 103, 104, 105, 106, 107, 108, 215, 216, 217, 405, 406, 407, 408, 409, 410, 411, 412, 413, 430, 431, 432, 433, 434, 435, 436, 437] (by decide +kernel) (by decide +kernel)
set_option maxRecDepth 20000 in
theorem gL_law_X1_restart : GoodIn wsL_law (wsV RL 41 RX1 yX1_restart wsX1_restart) := goodIn_app (goodIn_of _ (by decide +kernel)) ggL_law_X1_restart
set_option maxRecDepth 20000 in
theorem ggL_law_X2_restart : GoodIn wsL_law wsX2_restart := goodIn_r _ [221, 113, 35, 32, 39, 40, 114, 30, 222, 223, 224, 225, 5, 226, 34, 31, 33, 28, 38, 37, 227, 228, 229, 230, 231, 232, 233, 234, 235, 236, 237, 238, 115, 116, 117, 118, 119, 120, 121, 122, 123, 124, 125, 126, 36, 127, 128, 129, 130, 414, 415, 416, 417, 418, 419, 420, 421, 422, 423, 424, 425, 426, 427, 428, 429] (by decide +kernel) (by decide +kernel)
set_option maxRecDepth 20000 in
theorem gL_law_X2_restart : GoodIn wsL_law (wsV RL 44 RX2 yX2_restart wsX2_restart) := goodIn_app (goodIn_of _ (by decide +kernel)) ggL_law_X2_restart
set_option maxRecDepth 20000 in
theorem ggL_law_X1_reconnect : GoodIn wsL_law wsX1_reconnect := goodIn_r _ [242, 20, 22, 135, 136, 137, 2, 138, 13, 243, 76, 244, 245, 84, 85, 86, 88, 89, 90, 91, 92, 93, 94, 95, 15, 17, 96, 97, 98, 81, 99, 100, 101, 102, 103, 104, 105, 83, 82, 106, 107, 108, 215, 216, 217, 188, 189, 190, 191, 200, 201, 202, 203, 23, 204, 205, 206, 207, 208, 209, 210, 80, 87, 211, 212, 213, 214, 246, 247, 248, 430, 431, 432, 433, 434, 435, 436, 437, 405, 406, 407, 408, 409, 410, 411, 412, 413] (by decide +kernel) (by decide +kernel)
set_option maxRecDepth 20000 in
theorem gL_law_X1_reconnect : GoodIn wsL_law (wsV RL 45 RX1 yX1_reconnect wsX1_reconnect) := goodIn_app (goodIn_of _ (by decide +kernel)) ggL_law_X1_reconnect
set_option maxRecDepth 20000 in
theorem ggL_law_X2_reconnect : GoodIn wsL_law wsX2_reconnect := goodIn_r _ [252, 32, 33, 34, 29, 114, 154, 155, 156, 5, 157, 113, 52, 53, 54, 115, 116, 117, 118, 119, 120, 121, 122, 39, 40, 123, 124, 125, 126, 36, 127, 128, 129, 130, 37, 38, 227, 228, 229, 230, 231, 232, 233, 234, 222, 235, 236, 237, 238, 31, 35, 253, 254, 255, 256, 414, 415, 416, 417, 418, 419, 420, 421, 422, 423, 424, 425, 426, 427, 428, 429] (by decide +kernel) (by decide +kernel)
set_option maxRecDepth 20000 in
theorem gL_law_X2_reconnect : GoodIn wsL_law (wsV RL 48 RX2 yX2_reconnect wsX2_reconnect) := goodIn_app (goodIn_of _ (by decide +kernel)) ggL_law_X2_reconnect
set_option maxRecDepth 20000 in
theorem ggL_law_X1_disconnect : GoodIn wsL_law wsX1_disconnect := goodIn_r _ [260, 22, 135, 136, 137, 2, 138, 13, 181, 76, 182, 183, 84, 85, 86, 184, 185, 186, 187, 82, 83, 88, 89, 90, 91, 92, 93, 94, 95, 15, 17, 96, 97, 98, 81, 99, 100, 101, 102, 103, 104, 105, 106, 107, 108, 200, 201, 202, 203, 23, 204, 205, 206, 207, 208, 209, 210, 80, 87, 211, 212, 213, 214, 215, 216, 217, 188, 189, 190, 191, 430, 431, 432, 433, 434, 435, 436, 437, 405, 406, 407, 408, 409, 410, 411, 412, 413] (by decide +kernel) (by decide +kernel)
set_option maxRecDepth 20000 in
theorem gL_law_X1_disconnect : GoodIn wsL_law (wsV RL 49 RX1 yX1_disconnect wsX1_disconnect) := goodIn_app (goodIn_of _ (by decide +kernel)) ggL_law_X1_disconnect
set_option maxRecDepth 20000 in
theorem ggL_law_X2_disconnect : GoodIn wsL_law wsX2_disconnect := goodIn_r _ [264, 32, 33, 34, 114, 154, 155, 156, 5, 157, 113, 52, 53, 54, 227, 228, 229, 230, 37, 38, 115, 116, 117, 118, 119, 120, 121, 122, 39, 40, 123, 124, 125, 126, 36, 127, 128, 129, 130, 231, 232, 233, 234, 222, 235, 236, 237, 238, 31, 35, 414, 415, 416, 417, 418, 419, 420, 421, 422, 423, 424, 425, 426, 427, 428, 429] (by decide +kernel) (by decide +kernel)
set_option maxRecDepth 20000 in
theorem gL_law_X2_disconnect : GoodIn wsL_law (wsV RL 52 RX2 yX2_disconnect wsX2_disconnect) := goodIn_app (goodIn_of _ (by decide +kernel)) ggL_law_X2_disconnect
set_option maxRecDepth 20000 in
theorem ggL_law_X1_endOfTable : GoodIn wsL_law wsX1_endOfTable := goodIn_r _ [268, 135, 136, 137, 2, 138, 13, 200, 201, 202, 203, 22, 23, 204, 205, 206, 207, 208, 76, 209, 210, 80, 84, 87, 211, 212, 213, 214, 88, 89, 90, 91, 92, 93, 94, 95, 15, 17, 96, 97, 98, 81, 99, 100, 101, 102, 103, 104, 105, 83, 82, 106, 107, 108, 215, 216, 217, 86, 188, 189, 190, 191, 430, 431, 432, 433, 434, 435, 436, 437, 405, 406, 407, 408, 409, 410, 411, 412, 413] (by decide +kernel) (by decide +kernel)
set_option maxRecDepth 20000 in
theorem gL_law_X1_endOfTable : GoodIn wsL_law (wsV RL 53 RX1 yX1_endOfTable wsX1_endOfTable) := goodIn_app (goodIn_of _ (by decide +kernel)) ggL_law_X1_endOfTable
set_option maxRecDepth 20000 in
theorem ggL_law_X2_endOfTable : GoodIn wsL_law wsX2_endOfTable := goodIn_r _ [272, 32, 35, 154, 155, 156, 5, 157, 113, 52, 53, 54, 231, 232, 233, 234, 114, 222, 34, 235, 236, 237, 238, 31, 115, 116, 117, 118, 119, 120, 121, 122, 39, 40, 123, 124, 125, 126, 36, 127, 128, 129, 130, 37, 38, 227, 228, 229, 230, 414, 415, 416, 417, 418, 419, 420, 421, 422, 423, 424, 425, 426, 427, 428, 429] (by decide +kernel) (by decide +kernel)
set_option maxRecDepth 20000 in
theorem gL_law_X2_endOfTable : GoodIn wsL_law (wsV RL 57 RX2 yX2_endOfTable wsX2_endOfTable) := goodIn_app (goodIn_of _ (by decide +kernel)) ggL_law_X2_endOfTable
set_option maxRecDepth 20000 in
theorem ggL_law_X1_tick : GoodIn wsL_law wsX1_tick := goodIn_r _ [276, 23, 277, 278, 279, 2, 280, 13, 281, 76, 282, 283, 85, 86, 180, 181, 182, 183, 84, 184, 185, 186, 187, 82, 83, 188, 189, 190, 191, 200, 201, 202, 203, 22, 204, 205, 206, 207, 208, 209, 210, 80, 87, 211, 212, 213, 214, 88, 89, 90, 91, 92, 93, 94, 95, 15, 17, 96, 97, 98, 81, 99, 100, 101, 102, 103, 104, 105, 106, 107, 108, 215, 216, 217, 405, 406, 407, 408, 409, 410, 411, 412, 413, 430, 431, 432, 433, 434, 435, 436, 437] (by decide +kernel) (by decide +kernel)
set_option maxRecDepth 20000 in
theorem gL_law_X1_tick : GoodIn wsL_law (wsV RL 58 RX1 yX1_tick wsX1_tick) := goodIn_app (goodIn_of _ (by decide +kernel)) ggL_law_X1_tick
set_option maxRecDepth 20000 in
theorem ggL_law_X2_tick : GoodIn wsL_law wsX2_tick := goodIn_r _ [287, 113, 222, 52, 53, 5, 54, 288, 289, 290, 291, 33, 32, 34, 227, 228, 229, 230, 37, 38, 231, 232, 233, 234, 114, 235, 236, 237, 238, 31, 35, 115, 116, 117, 118, 119, 120, 121, 122, 39, 40, 123, 124, 125, 126, 36, 127, 128, 129, 130, 414, 415, 416, 417, 418, 419, 420, 421, 422, 423, 424, 425, 426, 427, 428, 429] (by decide +kernel) (by decide +kernel)
set_option maxRecDepth 20000 in
theorem gL_law_X2_tick : GoodIn wsL_law (wsV RL 61 RX2 yX2_tick wsX2_tick) := goodIn_app (goodIn_of _ (by decide +kernel)) ggL_law_X2_tick
set_option maxRecDepth 20000 in
theorem ggL_law_X1_isDeferring : GoodIn wsL_law wsX1_isDeferring := goodIn_r _ [295, 22, 405, 406, 407, 408, 409, 410, 411, 412, 413] (by decide +kernel) (by decide +kernel)
set_option maxRecDepth 20000 in
theorem gL_law_X1_isDeferring : GoodIn wsL_law (wsV RL 62 RX1 yX1_isDeferring wsX1_isDeferring) := goodIn_app (goodIn_of _ (by decide +kernel)) ggL_law_X1_isDeferring
set_option maxRecDepth 20000 in
theorem ggL_law_X2_isDeferring : GoodIn wsL_law wsX2_isDeferring := goodIn_r _ [299, 114, 414, 415, 416, 417, 418, 419, 420, 421, 422, 423, 424, 425, 426, 427, 428, 429] (by decide +kernel) (by decide +kernel)
set_option maxRecDepth 20000 in
theorem gL_law_X2_isDeferring : GoodIn wsL_law (wsV RL 66 RX2 yX2_isDeferring wsX2_isDeferring) := goodIn_app (goodIn_of _ (by decide +kernel)) ggL_law_X2_isDeferring
set_option maxRecDepth 20000 in
theorem ggL_law_X1_deferralTimer : GoodIn wsL_law wsX1_deferralTimer := goodIn_r _ [303, 23, 405, 406, 407, 408, 409, 410, 411, 412, 413] (by decide +kernel) (by decide +kernel)
set_option maxRecDepth 20000 in
theorem gL_law_X1_deferralTimer : GoodIn wsL_law (wsV RL 67 RX1 yX1_deferralTimer wsX1_deferralTimer) := goodIn_app (goodIn_of _ (by decide +kernel)) ggL_law_X1_deferralTimer
set_option maxRecDepth 20000 in
theorem ggL_law_X2_deferralTimer : GoodIn wsL_law wsX2_deferralTimer := goodIn_r _ [307, 222, 414, 415, 416, 417, 418, 419, 420, 421, 422, 423, 424, 425, 426, 427, 428, 429] (by decide +kernel) (by decide +kernel)
set_option maxRecDepth 20000 in
theorem gL_law_X2_deferralTimer : GoodIn wsL_law (wsV RL 70 RX2 yX2_deferralTimer wsX2_deferralTimer) := goodIn_app (goodIn_of _ (by decide +kernel)) ggL_law_X2_deferralTimer
set_option maxRecDepth 20000 in
theorem ggL_law_X1_waitingPeers : GoodIn wsL_law wsX1_waitingPeers := goodIn_r _ [207, 22, 13, 208, 76, 209, 210, 80, 84, 87, 405, 406, 407, 408, 409, 410, 411, 412, 413, 430, 431, 432, 433, 434, 435, 436, 437] (by decide +kernel) (by decide +kernel)
set_option maxRecDepth 20000 in
theorem gL_law_X1_waitingPeers : GoodIn wsL_law (wsV RL 71 RX1 yX1_waitingPeers wsX1_waitingPeers) := goodIn_app (goodIn_of _ (by decide +kernel)) ggL_law_X1_waitingPeers
set_option maxRecDepth 20000 in
theorem ggL_law_X2_waitingPeers : GoodIn wsL_law wsX2_waitingPeers := goodIn_r _ [312, 114, 235, 236, 237, 5, 238, 113, 31, 32, 35, 414, 415, 416, 417, 418, 419, 420, 421, 422, 423, 424, 425, 426, 427, 428, 429] (by decide +kernel) (by decide +kernel)
set_option maxRecDepth 20000 in
theorem gL_law_X2_waitingPeers : GoodIn wsL_law (wsV RL 74 RX2 yX2_waitingPeers wsX2_waitingPeers) := goodIn_app (goodIn_of _ (by decide +kernel)) ggL_law_X2_waitingPeers
set_option maxRecDepth 20000 in
theorem ggL_law_X1_nextHop : GoodIn wsL_law wsX1_nextHop := goodIn_r _ [316, 15, 139, 140, 2, 141, 405, 406, 407, 408, 409, 410, 411, 412, 413] (by decide +kernel) (by decide +kernel)
set_option maxRecDepth 20000 in
theorem gL_law_X1_nextHop : GoodIn wsL_law (wsV RL 75 RX1 yX1_nextHop wsX1_nextHop) := goodIn_app (goodIn_of _ (by decide +kernel)) ggL_law_X1_nextHop
set_option maxRecDepth 20000 in
theorem ggL_law_X2_nextHop : GoodIn wsL_law wsX2_nextHop := goodIn_r _ [320, 39, 158, 159, 5, 160, 52, 53, 54, 414, 415, 416, 417, 418, 419, 420, 421, 422, 423, 424, 425, 426, 427, 428, 429] (by decide +kernel) (by decide +kernel)
set_option maxRecDepth 20000 in
theorem gL_law_X2_nextHop : GoodIn wsL_law (wsV RL 78 RX2 yX2_nextHop wsX2_nextHop) := goodIn_app (goodIn_of _ (by decide +kernel)) ggL_law_X2_nextHop
set_option maxRecDepth 20000 in
theorem ggL_law_X1_isEntryStale : GoodIn wsL_law wsX1_isEntryStale := goodIn_r _ [324, 15, 17, 139, 140, 2, 141, 405, 406, 407, 408, 409, 410, 411, 412, 413] (by decide +kernel) (by decide +kernel)
set_option maxRecDepth 20000 in
theorem gL_law_X1_isEntryStale : GoodIn wsL_law (wsV RL 79 RX1 yX1_isEntryStale wsX1_isEntryStale) := goodIn_app (goodIn_of _ (by decide +kernel)) ggL_law_X1_isEntryStale
set_option maxRecDepth 20000 in
theorem ggL_law_X2_isEntryStale : GoodIn wsL_law wsX2_isEntryStale := goodIn_r _ [328, 39, 40, 158, 159, 5, 160, 52, 53, 54, 414, 415, 416, 417, 418, 419, 420, 421, 422, 423, 424, 425, 426, 427, 428, 429] (by decide +kernel) (by decide +kernel)
set_option maxRecDepth 20000 in
theorem gL_law_X2_isEntryStale : GoodIn wsL_law (wsV RL 82 RX2 yX2_isEntryStale wsX2_isEntryStale) := goodIn_app (goodIn_of _ (by decide +kernel)) ggL_law_X2_isEntryStale
set_option maxRecDepth 20000 in
theorem ggL_law_X1_sessionState : GoodIn wsL_law wsX1_sessionState := goodIn_r _ [332, 135, 136, 137, 2, 138, 13, 430, 431, 432, 433, 434, 435, 436, 437, 405, 406, 407, 408, 409, 410, 411, 412, 413] (by decide +kernel) (by decide +kernel)
set_option maxRecDepth 20000 in
theorem gL_law_X1_sessionState : GoodIn wsL_law (wsV RL 83 RX1 yX1_sessionState wsX1_sessionState) := goodIn_app (goodIn_of _ (by decide +kernel)) ggL_law_X1_sessionState
set_option maxRecDepth 20000 in
theorem ggL_law_X2_sessionState : GoodIn wsL_law wsX2_sessionState := goodIn_r _ [336, 32, 154, 155, 156, 5, 157, 113, 52, 53, 54, 414, 415, 416, 417, 418, 419, 420, 421, 422, 423, 424, 425, 426, 427, 428, 429] (by decide +kernel) (by decide +kernel)
set_option maxRecDepth 20000 in
theorem gL_law_X2_sessionState : GoodIn wsL_law (wsV RL 86 RX2 yX2_sessionState wsX2_sessionState) := goodIn_app (goodIn_of _ (by decide +kernel)) ggL_law_X2_sessionState
set_option maxRecDepth 20000 in
theorem ggL_law_X1_restartTimer : GoodIn wsL_law wsX1_restartTimer := goodIn_r _ [340, 135, 136, 137, 2, 138, 13, 430, 431, 432, 433, 434, 435, 436, 437, 405, 406, 407, 408, 409, 410, 411, 412, 413] (by decide +kernel) (by decide +kernel)
set_option maxRecDepth 20000 in
theorem gL_law_X1_restartTimer : GoodIn wsL_law (wsV RL 87 RX1 yX1_restartTimer wsX1_restartTimer) := goodIn_app (goodIn_of _ (by decide +kernel)) ggL_law_X1_restartTimer
set_option maxRecDepth 20000 in
theorem ggL_law_X2_restartTimer : GoodIn wsL_law wsX2_restartTimer := goodIn_r _ [344, 33, 154, 155, 156, 5, 157, 113, 52, 53, 54, 414, 415, 416, 417, 418, 419, 420, 421, 422, 423, 424, 425, 426, 427, 428, 429] (by decide +kernel) (by decide +kernel)
set_option maxRecDepth 20000 in
theorem gL_law_X2_restartTimer : GoodIn wsL_law (wsV RL 90 RX2 yX2_restartTimer wsX2_restartTimer) := goodIn_app (goodIn_of _ (by decide +kernel)) ggL_law_X2_restartTimer
set_option maxRecDepth 20000 in
theorem ggL_law_X1_staleTimer : GoodIn wsL_law wsX1_staleTimer := goodIn_r _ [348, 135, 136, 137, 2, 138, 13, 430, 431, 432, 433, 434, 435, 436, 437, 405, 406, 407, 408, 409, 410, 411, 412, 413] (by decide +kernel) (by decide +kernel)
set_option maxRecDepth 20000 in
theorem gL_law_X1_staleTimer : GoodIn wsL_law (wsV RL 91 RX1 yX1_staleTimer wsX1_staleTimer) := goodIn_app (goodIn_of _ (by decide +kernel)) ggL_law_X1_staleTimer
set_option maxRecDepth 20000 in
theorem ggL_law_X2_staleTimer : GoodIn wsL_law wsX2_staleTimer := goodIn_r _ [352, 34, 154, 155, 156, 5, 157, 113, 52, 53, 54, 414, 415, 416, 417, 418, 419, 420, 421, 422, 423, 424, 425, 426, 427, 428, 429] (by decide +kernel) (by decide +kernel)
set_option maxRecDepth 20000 in
theorem gL_law_X2_staleTimer : GoodIn wsL_law (wsV RL 94 RX2 yX2_staleTimer wsX2_staleTimer) := goodIn_app (goodIn_of _ (by decide +kernel)) ggL_law_X2_staleTimer
set_option maxRecDepth 20000 in
theorem ggL_law_X1_learnedLength : GoodIn wsL_law wsX1_learnedLength := goodIn_r _ [356, 135, 136, 137, 2, 138, 13, 139, 140, 141, 430, 431, 432, 433, 434, 435, 436, 437, 405, 406, 407, 408, 409, 410, 411, 412, 413] (by decide +kernel) (by decide +kernel)
set_option maxRecDepth 20000 in
theorem gL_law_X1_learnedLength : GoodIn wsL_law (wsV RL 95 RX1 yX1_learnedLength wsX1_learnedLength) := goodIn_app (goodIn_of _ (by decide +kernel)) ggL_law_X1_learnedLength
set_option maxRecDepth 20000 in
theorem ggL_law_X2_learnedLength : GoodIn wsL_law wsX2_learnedLength := goodIn_r _ [360, 37, 150, 151, 152, 5, 153, 154, 155, 156, 157, 113, 52, 53, 54, 158, 159, 160, 414, 415, 416, 417, 418, 419, 420, 421, 422, 423, 424, 425, 426, 427, 428, 429] (by decide +kernel) (by decide +kernel)
set_option maxRecDepth 20000 in
theorem gL_law_X2_learnedLength : GoodIn wsL_law (wsV RL 98 RX2 yX2_learnedLength wsX2_learnedLength) := goodIn_app (goodIn_of _ (by decide +kernel)) ggL_law_X2_learnedLength
set_option maxRecDepth 20000 in
theorem ggL_law_X1_isLearnedStale : GoodIn wsL_law wsX1_isLearnedStale := goodIn_r _ [364, 135, 136, 137, 2, 138, 13, 139, 140, 141, 430, 431, 432, 433, 434, 435, 436, 437, 405, 406, 407, 408, 409, 410, 411, 412, 413] (by decide +kernel) (by decide +kernel)
set_option maxRecDepth 20000 in
theorem gL_law_X1_isLearnedStale : GoodIn wsL_law (wsV RL 99 RX1 yX1_isLearnedStale wsX1_isLearnedStale) := goodIn_app (goodIn_of _ (by decide +kernel)) ggL_law_X1_isLearnedStale
set_option maxRecDepth 20000 in
theorem ggL_law_X2_isLearnedStale : GoodIn wsL_law wsX2_isLearnedStale := goodIn_r _ [368, 37, 38, 150, 151, 152, 5, 153, 154, 155, 156, 157, 113, 52, 53, 54, 158, 159, 160, 414, 415, 416, 417, 418, 419, 420, 421, 422, 423, 424, 425, 426, 427, 428, 429] (by decide +kernel) (by decide +kernel)
set_option maxRecDepth 20000 in
theorem gL_law_X2_isLearnedStale : GoodIn wsL_law (wsV RL 102 RX2 yX2_isLearnedStale wsX2_isLearnedStale) := goodIn_app (goodIn_of _ (by decide +kernel)) ggL_law_X2_isLearnedStale
set_option maxRecDepth 20000 in
theorem ggL_law_X1_forward : GoodIn wsL_law wsX1_forward := goodIn_r _ [372, 135, 136, 137, 2, 138, 13, 139, 140, 141, 373, 374, 375, 376, 15, 405, 406, 407, 408, 409, 410, 411, 412, 413, 430, 431, 432, 433, 434, 435, 436, 437] (by decide +kernel) (by decide +kernel)
set_option maxRecDepth 20000 in
theorem gL_law_X1_forward : GoodIn wsL_law (wsV RL 103 RX1 yX1_forward wsX1_forward) := goodIn_app (goodIn_of _ (by decide +kernel)) ggL_law_X1_forward
set_option maxRecDepth 20000 in
theorem ggL_law_X2_forward : GoodIn wsL_law wsX2_forward := goodIn_r _ [380, 150, 151, 152, 5, 153, 154, 155, 156, 157, 113, 52, 53, 54, 158, 159, 160, 381, 382, 383, 384, 37, 39, 414, 415, 416, 417, 418, 419, 420, 421, 422, 423, 424, 425, 426, 427, 428, 429] (by decide +kernel) (by decide +kernel)
set_option maxRecDepth 20000 in
theorem gL_law_X2_forward : GoodIn wsL_law (wsV RL 106 RX2 yX2_forward wsX2_forward) := goodIn_app (goodIn_of _ (by decide +kernel)) ggL_law_X2_forward
set_option maxRecDepth 20000 in
theorem ggL_law_X1_reachableCount : GoodIn wsL_law wsX1_reachableCount := goodIn_r _ [388, 135, 136, 137, 2, 138, 13, 373, 374, 375, 376, 15, 405, 406, 407, 408, 409, 410, 411, 412, 413, 430, 431, 432, 433, 434, 435, 436, 437] (by decide +kernel) (by decide +kernel)
set_option maxRecDepth 20000 in
theorem gL_law_X1_reachableCount : GoodIn wsL_law (wsV RL 107 RX1 yX1_reachableCount wsX1_reachableCount) := goodIn_app (goodIn_of _ (by decide +kernel)) ggL_law_X1_reachableCount
set_option maxRecDepth 20000 in
theorem ggL_law_X2_reachableCount : GoodIn wsL_law wsX2_reachableCount := goodIn_r _ [392, 154, 155, 156, 5, 157, 113, 52, 53, 54, 381, 382, 383, 384, 37, 39, 414, 415, 416, 417, 418, 419, 420, 421, 422, 423, 424, 425, 426, 427, 428, 429] (by decide +kernel) (by decide +kernel)
set_option maxRecDepth 20000 in
theorem gL_law_X2_reachableCount : GoodIn wsL_law (wsV RL 110 RX2 yX2_reachableCount wsX2_reachableCount) := goodIn_app (goodIn_of _ (by decide +kernel)) ggL_law_X2_reachableCount
set_option maxRecDepth 20000 in
theorem ggL_law_X1_loopCount : GoodIn wsL_law wsX1_loopCount := goodIn_r _ [396, 13, 397, 398, 399, 2, 400, 373, 374, 375, 376, 15, 405, 406, 407, 408, 409, 410, 411, 412, 413, 430, 431, 432, 433, 434, 435, 436, 437] (by decide +kernel) (by decide +kernel)
set_option maxRecDepth 20000 in
theorem gL_law_X1_loopCount : GoodIn wsL_law (wsV RL 111 RX1 yX1_loopCount wsX1_loopCount) := goodIn_app (goodIn_of _ (by decide +kernel)) ggL_law_X1_loopCount
set_option maxRecDepth 20000 in
theorem ggL_law_X2_loopCount : GoodIn wsL_law wsX2_loopCount := goodIn_r _ [404, 113, 381, 382, 383, 5, 384, 37, 39, 414, 415, 416, 417, 418, 419, 420, 421, 422, 423, 424, 425, 426, 427, 428, 429] (by decide +kernel) (by decide +kernel)
set_option maxRecDepth 20000 in
theorem gL_law_X2_loopCount : GoodIn wsL_law (wsV RL 114 RX2 yX2_loopCount wsX2_loopCount) := goodIn_app (goodIn_of _ (by decide +kernel)) ggL_law_X2_loopCount
theorem dL_law_0 : decode cL_law 0 = .ok (.new 7, 3) := by decide +kernel
theorem dL_law_3 : decode cL_law 3 = .ok (.dup, 1) := by decide +kernel
theorem dL_law_4 : decode cL_law 4 = .ok (.invokespecial 9, 3) := by decide +kernel
theorem dL_law_7 : decode cL_law 7 = .ok (.astore_n 1, 1) := by decide +kernel
theorem dL_law_8 : decode cL_law 8 = .ok (.new 10, 3) := by decide +kernel
theorem dL_law_11 : decode cL_law 11 = .ok (.dup, 1) := by decide +kernel
theorem dL_law_12 : decode cL_law 12 = .ok (.invokespecial 12, 3) := by decide +kernel
theorem dL_law_15 : decode cL_law 15 = .ok (.astore_n 2, 1) := by decide +kernel
theorem dL_law_16 : decode cL_law 16 = .ok (.iconst 0, 1) := by decide +kernel
theorem dL_law_17 : decode cL_law 17 = .ok (.istore_n 3, 1) := by decide +kernel
theorem dL_law_18 : decode cL_law 18 = .ok (.iload_n 3, 1) := by decide +kernel
theorem dL_law_19 : decode cL_law 19 = .ok (.aload_n 0, 1) := by decide +kernel
theorem dL_law_20 : decode cL_law 20 = .ok (.arraylength, 1) := by decide +kernel
theorem dL_law_21 : decode cL_law 21 = .ok (.iconst 5, 1) := by decide +kernel
theorem dL_law_22 : decode cL_law 22 = .ok (.isub, 1) := by decide +kernel
theorem dL_law_23 : decode cL_law 23 = .ok (.if_icmp .gt 811, 3) := by decide +kernel
theorem dL_law_26 : decode cL_law 26 = .ok (.aload_n 0, 1) := by decide +kernel
theorem dL_law_27 : decode cL_law 27 = .ok (.iload_n 3, 1) := by decide +kernel
theorem dL_law_28 : decode cL_law 28 = .ok (.iaload, 1) := by decide +kernel
theorem dL_law_29 : decode cL_law 29 = .ok (.bipush 31, 2) := by decide +kernel
theorem dL_law_31 : decode cL_law 31 = .ok (.iand, 1) := by decide +kernel
theorem dL_law_32 : decode cL_law 32 = .ok (.tableswitch 796 0 23 #[112, 135, 158, 181, 220, 273, 316, 355, 378, 401, 434, 457, 470, 483, 496, 529, 562, 585, 608, 631, 674, 717, 760, 783], 112) := by decide +kernel
theorem dL_law_144 : decode cL_law 144 = .ok (.aload_n 1, 1) := by decide +kernel
theorem dL_law_145 : decode cL_law 145 = .ok (.aload_n 0, 1) := by decide +kernel
theorem dL_law_146 : decode cL_law 146 = .ok (.iload_n 3, 1) := by decide +kernel
theorem dL_law_147 : decode cL_law 147 = .ok (.iconst 1, 1) := by decide +kernel
theorem dL_law_148 : decode cL_law 148 = .ok (.iadd, 1) := by decide +kernel
theorem dL_law_149 : decode cL_law 149 = .ok (.iaload, 1) := by decide +kernel
theorem dL_law_150 : decode cL_law 150 = .ok (.invokevirtual 13, 3) := by decide +kernel
theorem dL_law_153 : decode cL_law 153 = .ok (.aload_n 2, 1) := by decide +kernel
theorem dL_law_154 : decode cL_law 154 = .ok (.aload_n 0, 1) := by decide +kernel
theorem dL_law_155 : decode cL_law 155 = .ok (.iload_n 3, 1) := by decide +kernel
theorem dL_law_156 : decode cL_law 156 = .ok (.iconst 1, 1) := by decide +kernel
theorem dL_law_157 : decode cL_law 157 = .ok (.iadd, 1) := by decide +kernel
theorem dL_law_158 : decode cL_law 158 = .ok (.iaload, 1) := by decide +kernel
theorem dL_law_159 : decode cL_law 159 = .ok (.invokevirtual 17, 3) := by decide +kernel
theorem dL_law_162 : decode cL_law 162 = .ok (.if_icmp .eq 666, 3) := by decide +kernel
theorem dL_law_165 : decode cL_law 165 = .ok (.iconst 0, 1) := by decide +kernel
theorem dL_law_166 : decode cL_law 166 = .ok (.ireturn, 1) := by decide +kernel
theorem dL_law_167 : decode cL_law 167 = .ok (.aload_n 1, 1) := by decide +kernel
theorem dL_law_168 : decode cL_law 168 = .ok (.aload_n 0, 1) := by decide +kernel
theorem dL_law_169 : decode cL_law 169 = .ok (.iload_n 3, 1) := by decide +kernel
theorem dL_law_170 : decode cL_law 170 = .ok (.iconst 1, 1) := by decide +kernel
theorem dL_law_171 : decode cL_law 171 = .ok (.iadd, 1) := by decide +kernel
theorem dL_law_172 : decode cL_law 172 = .ok (.iaload, 1) := by decide +kernel
theorem dL_law_173 : decode cL_law 173 = .ok (.invokevirtual 18, 3) := by decide +kernel
theorem dL_law_176 : decode cL_law 176 = .ok (.aload_n 2, 1) := by decide +kernel
theorem dL_law_177 : decode cL_law 177 = .ok (.aload_n 0, 1) := by decide +kernel
theorem dL_law_178 : decode cL_law 178 = .ok (.iload_n 3, 1) := by decide +kernel
theorem dL_law_179 : decode cL_law 179 = .ok (.iconst 1, 1) := by decide +kernel
theorem dL_law_180 : decode cL_law 180 = .ok (.iadd, 1) := by decide +kernel
theorem dL_law_181 : decode cL_law 181 = .ok (.iaload, 1) := by decide +kernel
theorem dL_law_182 : decode cL_law 182 = .ok (.invokevirtual 21, 3) := by decide +kernel
theorem dL_law_185 : decode cL_law 185 = .ok (.if_icmp .eq 643, 3) := by decide +kernel
theorem dL_law_188 : decode cL_law 188 = .ok (.iconst 0, 1) := by decide +kernel
theorem dL_law_189 : decode cL_law 189 = .ok (.ireturn, 1) := by decide +kernel
theorem dL_law_190 : decode cL_law 190 = .ok (.aload_n 1, 1) := by decide +kernel
theorem dL_law_191 : decode cL_law 191 = .ok (.aload_n 0, 1) := by decide +kernel
theorem dL_law_192 : decode cL_law 192 = .ok (.iload_n 3, 1) := by decide +kernel
theorem dL_law_193 : decode cL_law 193 = .ok (.iconst 1, 1) := by decide +kernel
theorem dL_law_194 : decode cL_law 194 = .ok (.iadd, 1) := by decide +kernel
theorem dL_law_195 : decode cL_law 195 = .ok (.iaload, 1) := by decide +kernel
theorem dL_law_196 : decode cL_law 196 = .ok (.invokevirtual 22, 3) := by decide +kernel
theorem dL_law_199 : decode cL_law 199 = .ok (.aload_n 2, 1) := by decide +kernel
theorem dL_law_200 : decode cL_law 200 = .ok (.aload_n 0, 1) := by decide +kernel
theorem dL_law_201 : decode cL_law 201 = .ok (.iload_n 3, 1) := by decide +kernel
theorem dL_law_202 : decode cL_law 202 = .ok (.iconst 1, 1) := by decide +kernel
theorem dL_law_203 : decode cL_law 203 = .ok (.iadd, 1) := by decide +kernel
theorem dL_law_204 : decode cL_law 204 = .ok (.iaload, 1) := by decide +kernel
theorem dL_law_205 : decode cL_law 205 = .ok (.invokevirtual 25, 3) := by decide +kernel
theorem dL_law_208 : decode cL_law 208 = .ok (.if_icmp .eq 620, 3) := by decide +kernel
theorem dL_law_211 : decode cL_law 211 = .ok (.iconst 0, 1) := by decide +kernel
theorem dL_law_212 : decode cL_law 212 = .ok (.ireturn, 1) := by decide +kernel
theorem dL_law_213 : decode cL_law 213 = .ok (.aload_n 1, 1) := by decide +kernel
theorem dL_law_214 : decode cL_law 214 = .ok (.aload_n 0, 1) := by decide +kernel
theorem dL_law_215 : decode cL_law 215 = .ok (.iload_n 3, 1) := by decide +kernel
theorem dL_law_216 : decode cL_law 216 = .ok (.iconst 1, 1) := by decide +kernel
theorem dL_law_217 : decode cL_law 217 = .ok (.iadd, 1) := by decide +kernel
theorem dL_law_218 : decode cL_law 218 = .ok (.iaload, 1) := by decide +kernel
theorem dL_law_219 : decode cL_law 219 = .ok (.ifCond .eq 7, 3) := by decide +kernel
theorem dL_law_222 : decode cL_law 222 = .ok (.iconst 1, 1) := by decide +kernel
theorem dL_law_223 : decode cL_law 223 = .ok (.goto 4, 3) := by decide +kernel
theorem dL_law_226 : decode cL_law 226 = .ok (.iconst 0, 1) := by decide +kernel
theorem dL_law_227 : decode cL_law 227 = .ok (.invokevirtual 26, 3) := by decide +kernel
theorem dL_law_230 : decode cL_law 230 = .ok (.aload_n 2, 1) := by decide +kernel
theorem dL_law_231 : decode cL_law 231 = .ok (.aload_n 0, 1) := by decide +kernel
theorem dL_law_232 : decode cL_law 232 = .ok (.iload_n 3, 1) := by decide +kernel
theorem dL_law_233 : decode cL_law 233 = .ok (.iconst 1, 1) := by decide +kernel
theorem dL_law_234 : decode cL_law 234 = .ok (.iadd, 1) := by decide +kernel
theorem dL_law_235 : decode cL_law 235 = .ok (.iaload, 1) := by decide +kernel
theorem dL_law_236 : decode cL_law 236 = .ok (.ifCond .eq 7, 3) := by decide +kernel
theorem dL_law_239 : decode cL_law 239 = .ok (.iconst 1, 1) := by decide +kernel
theorem dL_law_240 : decode cL_law 240 = .ok (.goto 4, 3) := by decide +kernel
theorem dL_law_243 : decode cL_law 243 = .ok (.iconst 0, 1) := by decide +kernel
theorem dL_law_244 : decode cL_law 244 = .ok (.invokevirtual 30, 3) := by decide +kernel
theorem dL_law_247 : decode cL_law 247 = .ok (.if_icmp .eq 581, 3) := by decide +kernel
theorem dL_law_250 : decode cL_law 250 = .ok (.iconst 0, 1) := by decide +kernel
theorem dL_law_251 : decode cL_law 251 = .ok (.ireturn, 1) := by decide +kernel
theorem dL_law_252 : decode cL_law 252 = .ok (.aload_n 1, 1) := by decide +kernel
theorem dL_law_253 : decode cL_law 253 = .ok (.aload_n 0, 1) := by decide +kernel
theorem dL_law_254 : decode cL_law 254 = .ok (.iload_n 3, 1) := by decide +kernel
theorem dL_law_255 : decode cL_law 255 = .ok (.iconst 1, 1) := by decide +kernel
theorem dL_law_256 : decode cL_law 256 = .ok (.iadd, 1) := by decide +kernel
theorem dL_law_257 : decode cL_law 257 = .ok (.iaload, 1) := by decide +kernel
theorem dL_law_258 : decode cL_law 258 = .ok (.aload_n 0, 1) := by decide +kernel
theorem dL_law_259 : decode cL_law 259 = .ok (.iload_n 3, 1) := by decide +kernel
theorem dL_law_260 : decode cL_law 260 = .ok (.iconst 2, 1) := by decide +kernel
theorem dL_law_261 : decode cL_law 261 = .ok (.iadd, 1) := by decide +kernel
theorem dL_law_262 : decode cL_law 262 = .ok (.iaload, 1) := by decide +kernel
theorem dL_law_263 : decode cL_law 263 = .ok (.aload_n 0, 1) := by decide +kernel
theorem dL_law_264 : decode cL_law 264 = .ok (.iload_n 3, 1) := by decide +kernel
theorem dL_law_265 : decode cL_law 265 = .ok (.iconst 3, 1) := by decide +kernel
theorem dL_law_266 : decode cL_law 266 = .ok (.iadd, 1) := by decide +kernel
theorem dL_law_267 : decode cL_law 267 = .ok (.iaload, 1) := by decide +kernel
theorem dL_law_268 : decode cL_law 268 = .ok (.aload_n 0, 1) := by decide +kernel
theorem dL_law_269 : decode cL_law 269 = .ok (.iload_n 3, 1) := by decide +kernel
theorem dL_law_270 : decode cL_law 270 = .ok (.iconst 4, 1) := by decide +kernel
theorem dL_law_271 : decode cL_law 271 = .ok (.iadd, 1) := by decide +kernel
theorem dL_law_272 : decode cL_law 272 = .ok (.iaload, 1) := by decide +kernel
theorem dL_law_273 : decode cL_law 273 = .ok (.invokevirtual 31, 3) := by decide +kernel
theorem dL_law_276 : decode cL_law 276 = .ok (.aload_n 2, 1) := by decide +kernel
theorem dL_law_277 : decode cL_law 277 = .ok (.aload_n 0, 1) := by decide +kernel
theorem dL_law_278 : decode cL_law 278 = .ok (.iload_n 3, 1) := by decide +kernel
theorem dL_law_279 : decode cL_law 279 = .ok (.iconst 1, 1) := by decide +kernel
theorem dL_law_280 : decode cL_law 280 = .ok (.iadd, 1) := by decide +kernel
theorem dL_law_281 : decode cL_law 281 = .ok (.iaload, 1) := by decide +kernel
theorem dL_law_282 : decode cL_law 282 = .ok (.aload_n 0, 1) := by decide +kernel
theorem dL_law_283 : decode cL_law 283 = .ok (.iload_n 3, 1) := by decide +kernel
theorem dL_law_284 : decode cL_law 284 = .ok (.iconst 2, 1) := by decide +kernel
theorem dL_law_285 : decode cL_law 285 = .ok (.iadd, 1) := by decide +kernel
theorem dL_law_286 : decode cL_law 286 = .ok (.iaload, 1) := by decide +kernel
theorem dL_law_287 : decode cL_law 287 = .ok (.aload_n 0, 1) := by decide +kernel
theorem dL_law_288 : decode cL_law 288 = .ok (.iload_n 3, 1) := by decide +kernel
theorem dL_law_289 : decode cL_law 289 = .ok (.iconst 3, 1) := by decide +kernel
theorem dL_law_290 : decode cL_law 290 = .ok (.iadd, 1) := by decide +kernel
theorem dL_law_291 : decode cL_law 291 = .ok (.iaload, 1) := by decide +kernel
theorem dL_law_292 : decode cL_law 292 = .ok (.aload_n 0, 1) := by decide +kernel
theorem dL_law_293 : decode cL_law 293 = .ok (.iload_n 3, 1) := by decide +kernel
theorem dL_law_294 : decode cL_law 294 = .ok (.iconst 4, 1) := by decide +kernel
theorem dL_law_295 : decode cL_law 295 = .ok (.iadd, 1) := by decide +kernel
theorem dL_law_296 : decode cL_law 296 = .ok (.iaload, 1) := by decide +kernel
theorem dL_law_297 : decode cL_law 297 = .ok (.invokevirtual 35, 3) := by decide +kernel
theorem dL_law_300 : decode cL_law 300 = .ok (.if_icmp .eq 528, 3) := by decide +kernel
theorem dL_law_303 : decode cL_law 303 = .ok (.iconst 0, 1) := by decide +kernel
theorem dL_law_304 : decode cL_law 304 = .ok (.ireturn, 1) := by decide +kernel
theorem dL_law_305 : decode cL_law 305 = .ok (.aload_n 1, 1) := by decide +kernel
theorem dL_law_306 : decode cL_law 306 = .ok (.aload_n 0, 1) := by decide +kernel
theorem dL_law_307 : decode cL_law 307 = .ok (.iload_n 3, 1) := by decide +kernel
theorem dL_law_308 : decode cL_law 308 = .ok (.iconst 1, 1) := by decide +kernel
theorem dL_law_309 : decode cL_law 309 = .ok (.iadd, 1) := by decide +kernel
theorem dL_law_310 : decode cL_law 310 = .ok (.iaload, 1) := by decide +kernel
theorem dL_law_311 : decode cL_law 311 = .ok (.aload_n 0, 1) := by decide +kernel
theorem dL_law_312 : decode cL_law 312 = .ok (.iload_n 3, 1) := by decide +kernel
theorem dL_law_313 : decode cL_law 313 = .ok (.iconst 2, 1) := by decide +kernel
theorem dL_law_314 : decode cL_law 314 = .ok (.iadd, 1) := by decide +kernel
theorem dL_law_315 : decode cL_law 315 = .ok (.iaload, 1) := by decide +kernel
theorem dL_law_316 : decode cL_law 316 = .ok (.aload_n 0, 1) := by decide +kernel
theorem dL_law_317 : decode cL_law 317 = .ok (.iload_n 3, 1) := by decide +kernel
theorem dL_law_318 : decode cL_law 318 = .ok (.iconst 3, 1) := by decide +kernel
theorem dL_law_319 : decode cL_law 319 = .ok (.iadd, 1) := by decide +kernel
theorem dL_law_320 : decode cL_law 320 = .ok (.iaload, 1) := by decide +kernel
theorem dL_law_321 : decode cL_law 321 = .ok (.invokevirtual 36, 3) := by decide +kernel
theorem dL_law_324 : decode cL_law 324 = .ok (.aload_n 2, 1) := by decide +kernel
theorem dL_law_325 : decode cL_law 325 = .ok (.aload_n 0, 1) := by decide +kernel
theorem dL_law_326 : decode cL_law 326 = .ok (.iload_n 3, 1) := by decide +kernel
theorem dL_law_327 : decode cL_law 327 = .ok (.iconst 1, 1) := by decide +kernel
theorem dL_law_328 : decode cL_law 328 = .ok (.iadd, 1) := by decide +kernel
theorem dL_law_329 : decode cL_law 329 = .ok (.iaload, 1) := by decide +kernel
theorem dL_law_330 : decode cL_law 330 = .ok (.aload_n 0, 1) := by decide +kernel
theorem dL_law_331 : decode cL_law 331 = .ok (.iload_n 3, 1) := by decide +kernel
theorem dL_law_332 : decode cL_law 332 = .ok (.iconst 2, 1) := by decide +kernel
theorem dL_law_333 : decode cL_law 333 = .ok (.iadd, 1) := by decide +kernel
theorem dL_law_334 : decode cL_law 334 = .ok (.iaload, 1) := by decide +kernel
theorem dL_law_335 : decode cL_law 335 = .ok (.aload_n 0, 1) := by decide +kernel
theorem dL_law_336 : decode cL_law 336 = .ok (.iload_n 3, 1) := by decide +kernel
theorem dL_law_337 : decode cL_law 337 = .ok (.iconst 3, 1) := by decide +kernel
theorem dL_law_338 : decode cL_law 338 = .ok (.iadd, 1) := by decide +kernel
theorem dL_law_339 : decode cL_law 339 = .ok (.iaload, 1) := by decide +kernel
theorem dL_law_340 : decode cL_law 340 = .ok (.invokevirtual 40, 3) := by decide +kernel
theorem dL_law_343 : decode cL_law 343 = .ok (.if_icmp .eq 485, 3) := by decide +kernel
theorem dL_law_346 : decode cL_law 346 = .ok (.iconst 0, 1) := by decide +kernel
theorem dL_law_347 : decode cL_law 347 = .ok (.ireturn, 1) := by decide +kernel
theorem dL_law_348 : decode cL_law 348 = .ok (.aload_n 1, 1) := by decide +kernel
theorem dL_law_349 : decode cL_law 349 = .ok (.aload_n 0, 1) := by decide +kernel
theorem dL_law_350 : decode cL_law 350 = .ok (.iload_n 3, 1) := by decide +kernel
theorem dL_law_351 : decode cL_law 351 = .ok (.iconst 1, 1) := by decide +kernel
theorem dL_law_352 : decode cL_law 352 = .ok (.iadd, 1) := by decide +kernel
theorem dL_law_353 : decode cL_law 353 = .ok (.iaload, 1) := by decide +kernel
theorem dL_law_354 : decode cL_law 354 = .ok (.ifCond .eq 7, 3) := by decide +kernel
theorem dL_law_357 : decode cL_law 357 = .ok (.iconst 1, 1) := by decide +kernel
theorem dL_law_358 : decode cL_law 358 = .ok (.goto 4, 3) := by decide +kernel
theorem dL_law_361 : decode cL_law 361 = .ok (.iconst 0, 1) := by decide +kernel
theorem dL_law_362 : decode cL_law 362 = .ok (.invokevirtual 41, 3) := by decide +kernel
theorem dL_law_365 : decode cL_law 365 = .ok (.aload_n 2, 1) := by decide +kernel
theorem dL_law_366 : decode cL_law 366 = .ok (.aload_n 0, 1) := by decide +kernel
theorem dL_law_367 : decode cL_law 367 = .ok (.iload_n 3, 1) := by decide +kernel
theorem dL_law_368 : decode cL_law 368 = .ok (.iconst 1, 1) := by decide +kernel
theorem dL_law_369 : decode cL_law 369 = .ok (.iadd, 1) := by decide +kernel
theorem dL_law_370 : decode cL_law 370 = .ok (.iaload, 1) := by decide +kernel
theorem dL_law_371 : decode cL_law 371 = .ok (.ifCond .eq 7, 3) := by decide +kernel
theorem dL_law_374 : decode cL_law 374 = .ok (.iconst 1, 1) := by decide +kernel
theorem dL_law_375 : decode cL_law 375 = .ok (.goto 4, 3) := by decide +kernel
theorem dL_law_378 : decode cL_law 378 = .ok (.iconst 0, 1) := by decide +kernel
theorem dL_law_379 : decode cL_law 379 = .ok (.invokevirtual 44, 3) := by decide +kernel
theorem dL_law_382 : decode cL_law 382 = .ok (.if_icmp .eq 446, 3) := by decide +kernel
theorem dL_law_385 : decode cL_law 385 = .ok (.iconst 0, 1) := by decide +kernel
theorem dL_law_386 : decode cL_law 386 = .ok (.ireturn, 1) := by decide +kernel
theorem dL_law_387 : decode cL_law 387 = .ok (.aload_n 1, 1) := by decide +kernel
theorem dL_law_388 : decode cL_law 388 = .ok (.aload_n 0, 1) := by decide +kernel
theorem dL_law_389 : decode cL_law 389 = .ok (.iload_n 3, 1) := by decide +kernel
theorem dL_law_390 : decode cL_law 390 = .ok (.iconst 1, 1) := by decide +kernel
theorem dL_law_391 : decode cL_law 391 = .ok (.iadd, 1) := by decide +kernel
theorem dL_law_392 : decode cL_law 392 = .ok (.iaload, 1) := by decide +kernel
theorem dL_law_393 : decode cL_law 393 = .ok (.invokevirtual 45, 3) := by decide +kernel
theorem dL_law_396 : decode cL_law 396 = .ok (.aload_n 2, 1) := by decide +kernel
theorem dL_law_397 : decode cL_law 397 = .ok (.aload_n 0, 1) := by decide +kernel
theorem dL_law_398 : decode cL_law 398 = .ok (.iload_n 3, 1) := by decide +kernel
theorem dL_law_399 : decode cL_law 399 = .ok (.iconst 1, 1) := by decide +kernel
theorem dL_law_400 : decode cL_law 400 = .ok (.iadd, 1) := by decide +kernel
theorem dL_law_401 : decode cL_law 401 = .ok (.iaload, 1) := by decide +kernel
theorem dL_law_402 : decode cL_law 402 = .ok (.invokevirtual 48, 3) := by decide +kernel
theorem dL_law_405 : decode cL_law 405 = .ok (.if_icmp .eq 423, 3) := by decide +kernel
theorem dL_law_408 : decode cL_law 408 = .ok (.iconst 0, 1) := by decide +kernel
theorem dL_law_409 : decode cL_law 409 = .ok (.ireturn, 1) := by decide +kernel
theorem dL_law_410 : decode cL_law 410 = .ok (.aload_n 1, 1) := by decide +kernel
theorem dL_law_411 : decode cL_law 411 = .ok (.aload_n 0, 1) := by decide +kernel
theorem dL_law_412 : decode cL_law 412 = .ok (.iload_n 3, 1) := by decide +kernel
theorem dL_law_413 : decode cL_law 413 = .ok (.iconst 1, 1) := by decide +kernel
theorem dL_law_414 : decode cL_law 414 = .ok (.iadd, 1) := by decide +kernel
theorem dL_law_415 : decode cL_law 415 = .ok (.iaload, 1) := by decide +kernel
theorem dL_law_416 : decode cL_law 416 = .ok (.invokevirtual 49, 3) := by decide +kernel
theorem dL_law_419 : decode cL_law 419 = .ok (.aload_n 2, 1) := by decide +kernel
theorem dL_law_420 : decode cL_law 420 = .ok (.aload_n 0, 1) := by decide +kernel
theorem dL_law_421 : decode cL_law 421 = .ok (.iload_n 3, 1) := by decide +kernel
theorem dL_law_422 : decode cL_law 422 = .ok (.iconst 1, 1) := by decide +kernel
theorem dL_law_423 : decode cL_law 423 = .ok (.iadd, 1) := by decide +kernel
theorem dL_law_424 : decode cL_law 424 = .ok (.iaload, 1) := by decide +kernel
theorem dL_law_425 : decode cL_law 425 = .ok (.invokevirtual 52, 3) := by decide +kernel
theorem dL_law_428 : decode cL_law 428 = .ok (.if_icmp .eq 400, 3) := by decide +kernel
theorem dL_law_431 : decode cL_law 431 = .ok (.iconst 0, 1) := by decide +kernel
theorem dL_law_432 : decode cL_law 432 = .ok (.ireturn, 1) := by decide +kernel
theorem dL_law_433 : decode cL_law 433 = .ok (.aload_n 1, 1) := by decide +kernel
theorem dL_law_434 : decode cL_law 434 = .ok (.aload_n 0, 1) := by decide +kernel
theorem dL_law_435 : decode cL_law 435 = .ok (.iload_n 3, 1) := by decide +kernel
theorem dL_law_436 : decode cL_law 436 = .ok (.iconst 1, 1) := by decide +kernel
theorem dL_law_437 : decode cL_law 437 = .ok (.iadd, 1) := by decide +kernel
theorem dL_law_438 : decode cL_law 438 = .ok (.iaload, 1) := by decide +kernel
theorem dL_law_439 : decode cL_law 439 = .ok (.aload_n 0, 1) := by decide +kernel
theorem dL_law_440 : decode cL_law 440 = .ok (.iload_n 3, 1) := by decide +kernel
theorem dL_law_441 : decode cL_law 441 = .ok (.iconst 2, 1) := by decide +kernel
theorem dL_law_442 : decode cL_law 442 = .ok (.iadd, 1) := by decide +kernel
theorem dL_law_443 : decode cL_law 443 = .ok (.iaload, 1) := by decide +kernel
theorem dL_law_444 : decode cL_law 444 = .ok (.invokevirtual 53, 3) := by decide +kernel
theorem dL_law_447 : decode cL_law 447 = .ok (.aload_n 2, 1) := by decide +kernel
theorem dL_law_448 : decode cL_law 448 = .ok (.aload_n 0, 1) := by decide +kernel
theorem dL_law_449 : decode cL_law 449 = .ok (.iload_n 3, 1) := by decide +kernel
theorem dL_law_450 : decode cL_law 450 = .ok (.iconst 1, 1) := by decide +kernel
theorem dL_law_451 : decode cL_law 451 = .ok (.iadd, 1) := by decide +kernel
theorem dL_law_452 : decode cL_law 452 = .ok (.iaload, 1) := by decide +kernel
theorem dL_law_453 : decode cL_law 453 = .ok (.aload_n 0, 1) := by decide +kernel
theorem dL_law_454 : decode cL_law 454 = .ok (.iload_n 3, 1) := by decide +kernel
theorem dL_law_455 : decode cL_law 455 = .ok (.iconst 2, 1) := by decide +kernel
theorem dL_law_456 : decode cL_law 456 = .ok (.iadd, 1) := by decide +kernel
theorem dL_law_457 : decode cL_law 457 = .ok (.iaload, 1) := by decide +kernel
theorem dL_law_458 : decode cL_law 458 = .ok (.invokevirtual 57, 3) := by decide +kernel
theorem dL_law_461 : decode cL_law 461 = .ok (.if_icmp .eq 367, 3) := by decide +kernel
theorem dL_law_464 : decode cL_law 464 = .ok (.iconst 0, 1) := by decide +kernel
theorem dL_law_465 : decode cL_law 465 = .ok (.ireturn, 1) := by decide +kernel
theorem dL_law_466 : decode cL_law 466 = .ok (.aload_n 1, 1) := by decide +kernel
theorem dL_law_467 : decode cL_law 467 = .ok (.aload_n 0, 1) := by decide +kernel
theorem dL_law_468 : decode cL_law 468 = .ok (.iload_n 3, 1) := by decide +kernel
theorem dL_law_469 : decode cL_law 469 = .ok (.iconst 1, 1) := by decide +kernel
theorem dL_law_470 : decode cL_law 470 = .ok (.iadd, 1) := by decide +kernel
theorem dL_law_471 : decode cL_law 471 = .ok (.iaload, 1) := by decide +kernel
theorem dL_law_472 : decode cL_law 472 = .ok (.invokevirtual 58, 3) := by decide +kernel
theorem dL_law_475 : decode cL_law 475 = .ok (.aload_n 2, 1) := by decide +kernel
theorem dL_law_476 : decode cL_law 476 = .ok (.aload_n 0, 1) := by decide +kernel
theorem dL_law_477 : decode cL_law 477 = .ok (.iload_n 3, 1) := by decide +kernel
theorem dL_law_478 : decode cL_law 478 = .ok (.iconst 1, 1) := by decide +kernel
theorem dL_law_479 : decode cL_law 479 = .ok (.iadd, 1) := by decide +kernel
theorem dL_law_480 : decode cL_law 480 = .ok (.iaload, 1) := by decide +kernel
theorem dL_law_481 : decode cL_law 481 = .ok (.invokevirtual 61, 3) := by decide +kernel
theorem dL_law_484 : decode cL_law 484 = .ok (.if_icmp .eq 344, 3) := by decide +kernel
theorem dL_law_487 : decode cL_law 487 = .ok (.iconst 0, 1) := by decide +kernel
theorem dL_law_488 : decode cL_law 488 = .ok (.ireturn, 1) := by decide +kernel
theorem dL_law_489 : decode cL_law 489 = .ok (.aload_n 1, 1) := by decide +kernel
theorem dL_law_490 : decode cL_law 490 = .ok (.invokevirtual 62, 3) := by decide +kernel
theorem dL_law_493 : decode cL_law 493 = .ok (.aload_n 2, 1) := by decide +kernel
theorem dL_law_494 : decode cL_law 494 = .ok (.invokevirtual 66, 3) := by decide +kernel
theorem dL_law_497 : decode cL_law 497 = .ok (.if_icmp .eq 331, 3) := by decide +kernel
theorem dL_law_500 : decode cL_law 500 = .ok (.iconst 0, 1) := by decide +kernel
theorem dL_law_501 : decode cL_law 501 = .ok (.ireturn, 1) := by decide +kernel
theorem dL_law_502 : decode cL_law 502 = .ok (.aload_n 1, 1) := by decide +kernel
theorem dL_law_503 : decode cL_law 503 = .ok (.invokevirtual 67, 3) := by decide +kernel
theorem dL_law_506 : decode cL_law 506 = .ok (.aload_n 2, 1) := by decide +kernel
theorem dL_law_507 : decode cL_law 507 = .ok (.invokevirtual 70, 3) := by decide +kernel
theorem dL_law_510 : decode cL_law 510 = .ok (.if_icmp .eq 318, 3) := by decide +kernel
theorem dL_law_513 : decode cL_law 513 = .ok (.iconst 0, 1) := by decide +kernel
theorem dL_law_514 : decode cL_law 514 = .ok (.ireturn, 1) := by decide +kernel
theorem dL_law_515 : decode cL_law 515 = .ok (.aload_n 1, 1) := by decide +kernel
theorem dL_law_516 : decode cL_law 516 = .ok (.invokevirtual 71, 3) := by decide +kernel
theorem dL_law_519 : decode cL_law 519 = .ok (.aload_n 2, 1) := by decide +kernel
theorem dL_law_520 : decode cL_law 520 = .ok (.invokevirtual 74, 3) := by decide +kernel
theorem dL_law_523 : decode cL_law 523 = .ok (.if_icmp .eq 305, 3) := by decide +kernel
theorem dL_law_526 : decode cL_law 526 = .ok (.iconst 0, 1) := by decide +kernel
theorem dL_law_527 : decode cL_law 527 = .ok (.ireturn, 1) := by decide +kernel
theorem dL_law_528 : decode cL_law 528 = .ok (.aload_n 1, 1) := by decide +kernel
theorem dL_law_529 : decode cL_law 529 = .ok (.aload_n 0, 1) := by decide +kernel
theorem dL_law_530 : decode cL_law 530 = .ok (.iload_n 3, 1) := by decide +kernel
theorem dL_law_531 : decode cL_law 531 = .ok (.iconst 1, 1) := by decide +kernel
theorem dL_law_532 : decode cL_law 532 = .ok (.iadd, 1) := by decide +kernel
theorem dL_law_533 : decode cL_law 533 = .ok (.iaload, 1) := by decide +kernel
theorem dL_law_534 : decode cL_law 534 = .ok (.aload_n 0, 1) := by decide +kernel
theorem dL_law_535 : decode cL_law 535 = .ok (.iload_n 3, 1) := by decide +kernel
theorem dL_law_536 : decode cL_law 536 = .ok (.iconst 2, 1) := by decide +kernel
theorem dL_law_537 : decode cL_law 537 = .ok (.iadd, 1) := by decide +kernel
theorem dL_law_538 : decode cL_law 538 = .ok (.iaload, 1) := by decide +kernel
theorem dL_law_539 : decode cL_law 539 = .ok (.invokevirtual 75, 3) := by decide +kernel
theorem dL_law_542 : decode cL_law 542 = .ok (.aload_n 2, 1) := by decide +kernel
theorem dL_law_543 : decode cL_law 543 = .ok (.aload_n 0, 1) := by decide +kernel
theorem dL_law_544 : decode cL_law 544 = .ok (.iload_n 3, 1) := by decide +kernel
theorem dL_law_545 : decode cL_law 545 = .ok (.iconst 1, 1) := by decide +kernel
theorem dL_law_546 : decode cL_law 546 = .ok (.iadd, 1) := by decide +kernel
theorem dL_law_547 : decode cL_law 547 = .ok (.iaload, 1) := by decide +kernel
theorem dL_law_548 : decode cL_law 548 = .ok (.aload_n 0, 1) := by decide +kernel
theorem dL_law_549 : decode cL_law 549 = .ok (.iload_n 3, 1) := by decide +kernel
theorem dL_law_550 : decode cL_law 550 = .ok (.iconst 2, 1) := by decide +kernel
theorem dL_law_551 : decode cL_law 551 = .ok (.iadd, 1) := by decide +kernel
theorem dL_law_552 : decode cL_law 552 = .ok (.iaload, 1) := by decide +kernel
theorem dL_law_553 : decode cL_law 553 = .ok (.invokevirtual 78, 3) := by decide +kernel
theorem dL_law_556 : decode cL_law 556 = .ok (.if_icmp .eq 272, 3) := by decide +kernel
theorem dL_law_559 : decode cL_law 559 = .ok (.iconst 0, 1) := by decide +kernel
theorem dL_law_560 : decode cL_law 560 = .ok (.ireturn, 1) := by decide +kernel
theorem dL_law_561 : decode cL_law 561 = .ok (.aload_n 1, 1) := by decide +kernel
theorem dL_law_562 : decode cL_law 562 = .ok (.aload_n 0, 1) := by decide +kernel
theorem dL_law_563 : decode cL_law 563 = .ok (.iload_n 3, 1) := by decide +kernel
theorem dL_law_564 : decode cL_law 564 = .ok (.iconst 1, 1) := by decide +kernel
theorem dL_law_565 : decode cL_law 565 = .ok (.iadd, 1) := by decide +kernel
theorem dL_law_566 : decode cL_law 566 = .ok (.iaload, 1) := by decide +kernel
theorem dL_law_567 : decode cL_law 567 = .ok (.aload_n 0, 1) := by decide +kernel
theorem dL_law_568 : decode cL_law 568 = .ok (.iload_n 3, 1) := by decide +kernel
theorem dL_law_569 : decode cL_law 569 = .ok (.iconst 2, 1) := by decide +kernel
theorem dL_law_570 : decode cL_law 570 = .ok (.iadd, 1) := by decide +kernel
theorem dL_law_571 : decode cL_law 571 = .ok (.iaload, 1) := by decide +kernel
theorem dL_law_572 : decode cL_law 572 = .ok (.invokevirtual 79, 3) := by decide +kernel
theorem dL_law_575 : decode cL_law 575 = .ok (.aload_n 2, 1) := by decide +kernel
theorem dL_law_576 : decode cL_law 576 = .ok (.aload_n 0, 1) := by decide +kernel
theorem dL_law_577 : decode cL_law 577 = .ok (.iload_n 3, 1) := by decide +kernel
theorem dL_law_578 : decode cL_law 578 = .ok (.iconst 1, 1) := by decide +kernel
theorem dL_law_579 : decode cL_law 579 = .ok (.iadd, 1) := by decide +kernel
theorem dL_law_580 : decode cL_law 580 = .ok (.iaload, 1) := by decide +kernel
theorem dL_law_581 : decode cL_law 581 = .ok (.aload_n 0, 1) := by decide +kernel
theorem dL_law_582 : decode cL_law 582 = .ok (.iload_n 3, 1) := by decide +kernel
theorem dL_law_583 : decode cL_law 583 = .ok (.iconst 2, 1) := by decide +kernel
theorem dL_law_584 : decode cL_law 584 = .ok (.iadd, 1) := by decide +kernel
theorem dL_law_585 : decode cL_law 585 = .ok (.iaload, 1) := by decide +kernel
theorem dL_law_586 : decode cL_law 586 = .ok (.invokevirtual 82, 3) := by decide +kernel
theorem dL_law_589 : decode cL_law 589 = .ok (.if_icmp .eq 239, 3) := by decide +kernel
theorem dL_law_592 : decode cL_law 592 = .ok (.iconst 0, 1) := by decide +kernel
theorem dL_law_593 : decode cL_law 593 = .ok (.ireturn, 1) := by decide +kernel
theorem dL_law_594 : decode cL_law 594 = .ok (.aload_n 1, 1) := by decide +kernel
theorem dL_law_595 : decode cL_law 595 = .ok (.aload_n 0, 1) := by decide +kernel
theorem dL_law_596 : decode cL_law 596 = .ok (.iload_n 3, 1) := by decide +kernel
theorem dL_law_597 : decode cL_law 597 = .ok (.iconst 1, 1) := by decide +kernel
theorem dL_law_598 : decode cL_law 598 = .ok (.iadd, 1) := by decide +kernel
theorem dL_law_599 : decode cL_law 599 = .ok (.iaload, 1) := by decide +kernel
theorem dL_law_600 : decode cL_law 600 = .ok (.invokevirtual 83, 3) := by decide +kernel
theorem dL_law_603 : decode cL_law 603 = .ok (.aload_n 2, 1) := by decide +kernel
theorem dL_law_604 : decode cL_law 604 = .ok (.aload_n 0, 1) := by decide +kernel
theorem dL_law_605 : decode cL_law 605 = .ok (.iload_n 3, 1) := by decide +kernel
theorem dL_law_606 : decode cL_law 606 = .ok (.iconst 1, 1) := by decide +kernel
theorem dL_law_607 : decode cL_law 607 = .ok (.iadd, 1) := by decide +kernel
theorem dL_law_608 : decode cL_law 608 = .ok (.iaload, 1) := by decide +kernel
theorem dL_law_609 : decode cL_law 609 = .ok (.invokevirtual 86, 3) := by decide +kernel
theorem dL_law_612 : decode cL_law 612 = .ok (.if_icmp .eq 216, 3) := by decide +kernel
theorem dL_law_615 : decode cL_law 615 = .ok (.iconst 0, 1) := by decide +kernel
theorem dL_law_616 : decode cL_law 616 = .ok (.ireturn, 1) := by decide +kernel
theorem dL_law_617 : decode cL_law 617 = .ok (.aload_n 1, 1) := by decide +kernel
theorem dL_law_618 : decode cL_law 618 = .ok (.aload_n 0, 1) := by decide +kernel
theorem dL_law_619 : decode cL_law 619 = .ok (.iload_n 3, 1) := by decide +kernel
theorem dL_law_620 : decode cL_law 620 = .ok (.iconst 1, 1) := by decide +kernel
theorem dL_law_621 : decode cL_law 621 = .ok (.iadd, 1) := by decide +kernel
theorem dL_law_622 : decode cL_law 622 = .ok (.iaload, 1) := by decide +kernel
theorem dL_law_623 : decode cL_law 623 = .ok (.invokevirtual 87, 3) := by decide +kernel
theorem dL_law_626 : decode cL_law 626 = .ok (.aload_n 2, 1) := by decide +kernel
theorem dL_law_627 : decode cL_law 627 = .ok (.aload_n 0, 1) := by decide +kernel
theorem dL_law_628 : decode cL_law 628 = .ok (.iload_n 3, 1) := by decide +kernel
theorem dL_law_629 : decode cL_law 629 = .ok (.iconst 1, 1) := by decide +kernel
theorem dL_law_630 : decode cL_law 630 = .ok (.iadd, 1) := by decide +kernel
theorem dL_law_631 : decode cL_law 631 = .ok (.iaload, 1) := by decide +kernel
theorem dL_law_632 : decode cL_law 632 = .ok (.invokevirtual 90, 3) := by decide +kernel
theorem dL_law_635 : decode cL_law 635 = .ok (.if_icmp .eq 193, 3) := by decide +kernel
theorem dL_law_638 : decode cL_law 638 = .ok (.iconst 0, 1) := by decide +kernel
theorem dL_law_639 : decode cL_law 639 = .ok (.ireturn, 1) := by decide +kernel
theorem dL_law_640 : decode cL_law 640 = .ok (.aload_n 1, 1) := by decide +kernel
theorem dL_law_641 : decode cL_law 641 = .ok (.aload_n 0, 1) := by decide +kernel
theorem dL_law_642 : decode cL_law 642 = .ok (.iload_n 3, 1) := by decide +kernel
theorem dL_law_643 : decode cL_law 643 = .ok (.iconst 1, 1) := by decide +kernel
theorem dL_law_644 : decode cL_law 644 = .ok (.iadd, 1) := by decide +kernel
theorem dL_law_645 : decode cL_law 645 = .ok (.iaload, 1) := by decide +kernel
theorem dL_law_646 : decode cL_law 646 = .ok (.invokevirtual 91, 3) := by decide +kernel
theorem dL_law_649 : decode cL_law 649 = .ok (.aload_n 2, 1) := by decide +kernel
theorem dL_law_650 : decode cL_law 650 = .ok (.aload_n 0, 1) := by decide +kernel
theorem dL_law_651 : decode cL_law 651 = .ok (.iload_n 3, 1) := by decide +kernel
theorem dL_law_652 : decode cL_law 652 = .ok (.iconst 1, 1) := by decide +kernel
theorem dL_law_653 : decode cL_law 653 = .ok (.iadd, 1) := by decide +kernel
theorem dL_law_654 : decode cL_law 654 = .ok (.iaload, 1) := by decide +kernel
theorem dL_law_655 : decode cL_law 655 = .ok (.invokevirtual 94, 3) := by decide +kernel
theorem dL_law_658 : decode cL_law 658 = .ok (.if_icmp .eq 170, 3) := by decide +kernel
theorem dL_law_661 : decode cL_law 661 = .ok (.iconst 0, 1) := by decide +kernel
theorem dL_law_662 : decode cL_law 662 = .ok (.ireturn, 1) := by decide +kernel
theorem dL_law_663 : decode cL_law 663 = .ok (.aload_n 1, 1) := by decide +kernel
theorem dL_law_664 : decode cL_law 664 = .ok (.aload_n 0, 1) := by decide +kernel
theorem dL_law_665 : decode cL_law 665 = .ok (.iload_n 3, 1) := by decide +kernel
theorem dL_law_666 : decode cL_law 666 = .ok (.iconst 1, 1) := by decide +kernel
theorem dL_law_667 : decode cL_law 667 = .ok (.iadd, 1) := by decide +kernel
theorem dL_law_668 : decode cL_law 668 = .ok (.iaload, 1) := by decide +kernel
theorem dL_law_669 : decode cL_law 669 = .ok (.aload_n 0, 1) := by decide +kernel
theorem dL_law_670 : decode cL_law 670 = .ok (.iload_n 3, 1) := by decide +kernel
theorem dL_law_671 : decode cL_law 671 = .ok (.iconst 2, 1) := by decide +kernel
theorem dL_law_672 : decode cL_law 672 = .ok (.iadd, 1) := by decide +kernel
theorem dL_law_673 : decode cL_law 673 = .ok (.iaload, 1) := by decide +kernel
theorem dL_law_674 : decode cL_law 674 = .ok (.aload_n 0, 1) := by decide +kernel
theorem dL_law_675 : decode cL_law 675 = .ok (.iload_n 3, 1) := by decide +kernel
theorem dL_law_676 : decode cL_law 676 = .ok (.iconst 3, 1) := by decide +kernel
theorem dL_law_677 : decode cL_law 677 = .ok (.iadd, 1) := by decide +kernel
theorem dL_law_678 : decode cL_law 678 = .ok (.iaload, 1) := by decide +kernel
theorem dL_law_679 : decode cL_law 679 = .ok (.invokevirtual 95, 3) := by decide +kernel
theorem dL_law_682 : decode cL_law 682 = .ok (.aload_n 2, 1) := by decide +kernel
theorem dL_law_683 : decode cL_law 683 = .ok (.aload_n 0, 1) := by decide +kernel
theorem dL_law_684 : decode cL_law 684 = .ok (.iload_n 3, 1) := by decide +kernel
theorem dL_law_685 : decode cL_law 685 = .ok (.iconst 1, 1) := by decide +kernel
theorem dL_law_686 : decode cL_law 686 = .ok (.iadd, 1) := by decide +kernel
theorem dL_law_687 : decode cL_law 687 = .ok (.iaload, 1) := by decide +kernel
theorem dL_law_688 : decode cL_law 688 = .ok (.aload_n 0, 1) := by decide +kernel
theorem dL_law_689 : decode cL_law 689 = .ok (.iload_n 3, 1) := by decide +kernel
theorem dL_law_690 : decode cL_law 690 = .ok (.iconst 2, 1) := by decide +kernel
theorem dL_law_691 : decode cL_law 691 = .ok (.iadd, 1) := by decide +kernel
theorem dL_law_692 : decode cL_law 692 = .ok (.iaload, 1) := by decide +kernel
theorem dL_law_693 : decode cL_law 693 = .ok (.aload_n 0, 1) := by decide +kernel
theorem dL_law_694 : decode cL_law 694 = .ok (.iload_n 3, 1) := by decide +kernel
theorem dL_law_695 : decode cL_law 695 = .ok (.iconst 3, 1) := by decide +kernel
theorem dL_law_696 : decode cL_law 696 = .ok (.iadd, 1) := by decide +kernel
theorem dL_law_697 : decode cL_law 697 = .ok (.iaload, 1) := by decide +kernel
theorem dL_law_698 : decode cL_law 698 = .ok (.invokevirtual 98, 3) := by decide +kernel
theorem dL_law_701 : decode cL_law 701 = .ok (.if_icmp .eq 127, 3) := by decide +kernel
theorem dL_law_704 : decode cL_law 704 = .ok (.iconst 0, 1) := by decide +kernel
theorem dL_law_705 : decode cL_law 705 = .ok (.ireturn, 1) := by decide +kernel
theorem dL_law_706 : decode cL_law 706 = .ok (.aload_n 1, 1) := by decide +kernel
theorem dL_law_707 : decode cL_law 707 = .ok (.aload_n 0, 1) := by decide +kernel
theorem dL_law_708 : decode cL_law 708 = .ok (.iload_n 3, 1) := by decide +kernel
theorem dL_law_709 : decode cL_law 709 = .ok (.iconst 1, 1) := by decide +kernel
theorem dL_law_710 : decode cL_law 710 = .ok (.iadd, 1) := by decide +kernel
theorem dL_law_711 : decode cL_law 711 = .ok (.iaload, 1) := by decide +kernel
theorem dL_law_712 : decode cL_law 712 = .ok (.aload_n 0, 1) := by decide +kernel
theorem dL_law_713 : decode cL_law 713 = .ok (.iload_n 3, 1) := by decide +kernel
theorem dL_law_714 : decode cL_law 714 = .ok (.iconst 2, 1) := by decide +kernel
theorem dL_law_715 : decode cL_law 715 = .ok (.iadd, 1) := by decide +kernel
theorem dL_law_716 : decode cL_law 716 = .ok (.iaload, 1) := by decide +kernel
theorem dL_law_717 : decode cL_law 717 = .ok (.aload_n 0, 1) := by decide +kernel
theorem dL_law_718 : decode cL_law 718 = .ok (.iload_n 3, 1) := by decide +kernel
theorem dL_law_719 : decode cL_law 719 = .ok (.iconst 3, 1) := by decide +kernel
theorem dL_law_720 : decode cL_law 720 = .ok (.iadd, 1) := by decide +kernel
theorem dL_law_721 : decode cL_law 721 = .ok (.iaload, 1) := by decide +kernel
theorem dL_law_722 : decode cL_law 722 = .ok (.invokevirtual 99, 3) := by decide +kernel
theorem dL_law_725 : decode cL_law 725 = .ok (.aload_n 2, 1) := by decide +kernel
theorem dL_law_726 : decode cL_law 726 = .ok (.aload_n 0, 1) := by decide +kernel
theorem dL_law_727 : decode cL_law 727 = .ok (.iload_n 3, 1) := by decide +kernel
theorem dL_law_728 : decode cL_law 728 = .ok (.iconst 1, 1) := by decide +kernel
theorem dL_law_729 : decode cL_law 729 = .ok (.iadd, 1) := by decide +kernel
theorem dL_law_730 : decode cL_law 730 = .ok (.iaload, 1) := by decide +kernel
theorem dL_law_731 : decode cL_law 731 = .ok (.aload_n 0, 1) := by decide +kernel
theorem dL_law_732 : decode cL_law 732 = .ok (.iload_n 3, 1) := by decide +kernel
theorem dL_law_733 : decode cL_law 733 = .ok (.iconst 2, 1) := by decide +kernel
theorem dL_law_734 : decode cL_law 734 = .ok (.iadd, 1) := by decide +kernel
theorem dL_law_735 : decode cL_law 735 = .ok (.iaload, 1) := by decide +kernel
theorem dL_law_736 : decode cL_law 736 = .ok (.aload_n 0, 1) := by decide +kernel
theorem dL_law_737 : decode cL_law 737 = .ok (.iload_n 3, 1) := by decide +kernel
theorem dL_law_738 : decode cL_law 738 = .ok (.iconst 3, 1) := by decide +kernel
theorem dL_law_739 : decode cL_law 739 = .ok (.iadd, 1) := by decide +kernel
theorem dL_law_740 : decode cL_law 740 = .ok (.iaload, 1) := by decide +kernel
theorem dL_law_741 : decode cL_law 741 = .ok (.invokevirtual 102, 3) := by decide +kernel
theorem dL_law_744 : decode cL_law 744 = .ok (.if_icmp .eq 84, 3) := by decide +kernel
theorem dL_law_747 : decode cL_law 747 = .ok (.iconst 0, 1) := by decide +kernel
theorem dL_law_748 : decode cL_law 748 = .ok (.ireturn, 1) := by decide +kernel
theorem dL_law_749 : decode cL_law 749 = .ok (.aload_n 1, 1) := by decide +kernel
theorem dL_law_750 : decode cL_law 750 = .ok (.aload_n 0, 1) := by decide +kernel
theorem dL_law_751 : decode cL_law 751 = .ok (.iload_n 3, 1) := by decide +kernel
theorem dL_law_752 : decode cL_law 752 = .ok (.iconst 1, 1) := by decide +kernel
theorem dL_law_753 : decode cL_law 753 = .ok (.iadd, 1) := by decide +kernel
theorem dL_law_754 : decode cL_law 754 = .ok (.iaload, 1) := by decide +kernel
theorem dL_law_755 : decode cL_law 755 = .ok (.aload_n 0, 1) := by decide +kernel
theorem dL_law_756 : decode cL_law 756 = .ok (.iload_n 3, 1) := by decide +kernel
theorem dL_law_757 : decode cL_law 757 = .ok (.iconst 2, 1) := by decide +kernel
theorem dL_law_758 : decode cL_law 758 = .ok (.iadd, 1) := by decide +kernel
theorem dL_law_759 : decode cL_law 759 = .ok (.iaload, 1) := by decide +kernel
theorem dL_law_760 : decode cL_law 760 = .ok (.aload_n 0, 1) := by decide +kernel
theorem dL_law_761 : decode cL_law 761 = .ok (.iload_n 3, 1) := by decide +kernel
theorem dL_law_762 : decode cL_law 762 = .ok (.iconst 3, 1) := by decide +kernel
theorem dL_law_763 : decode cL_law 763 = .ok (.iadd, 1) := by decide +kernel
theorem dL_law_764 : decode cL_law 764 = .ok (.iaload, 1) := by decide +kernel
theorem dL_law_765 : decode cL_law 765 = .ok (.invokevirtual 103, 3) := by decide +kernel
theorem dL_law_768 : decode cL_law 768 = .ok (.aload_n 2, 1) := by decide +kernel
theorem dL_law_769 : decode cL_law 769 = .ok (.aload_n 0, 1) := by decide +kernel
theorem dL_law_770 : decode cL_law 770 = .ok (.iload_n 3, 1) := by decide +kernel
theorem dL_law_771 : decode cL_law 771 = .ok (.iconst 1, 1) := by decide +kernel
theorem dL_law_772 : decode cL_law 772 = .ok (.iadd, 1) := by decide +kernel
theorem dL_law_773 : decode cL_law 773 = .ok (.iaload, 1) := by decide +kernel
theorem dL_law_774 : decode cL_law 774 = .ok (.aload_n 0, 1) := by decide +kernel
theorem dL_law_775 : decode cL_law 775 = .ok (.iload_n 3, 1) := by decide +kernel
theorem dL_law_776 : decode cL_law 776 = .ok (.iconst 2, 1) := by decide +kernel
theorem dL_law_777 : decode cL_law 777 = .ok (.iadd, 1) := by decide +kernel
theorem dL_law_778 : decode cL_law 778 = .ok (.iaload, 1) := by decide +kernel
theorem dL_law_779 : decode cL_law 779 = .ok (.aload_n 0, 1) := by decide +kernel
theorem dL_law_780 : decode cL_law 780 = .ok (.iload_n 3, 1) := by decide +kernel
theorem dL_law_781 : decode cL_law 781 = .ok (.iconst 3, 1) := by decide +kernel
theorem dL_law_782 : decode cL_law 782 = .ok (.iadd, 1) := by decide +kernel
theorem dL_law_783 : decode cL_law 783 = .ok (.iaload, 1) := by decide +kernel
theorem dL_law_784 : decode cL_law 784 = .ok (.invokevirtual 106, 3) := by decide +kernel
theorem dL_law_787 : decode cL_law 787 = .ok (.if_icmp .eq 41, 3) := by decide +kernel
theorem dL_law_790 : decode cL_law 790 = .ok (.iconst 0, 1) := by decide +kernel
theorem dL_law_791 : decode cL_law 791 = .ok (.ireturn, 1) := by decide +kernel
theorem dL_law_792 : decode cL_law 792 = .ok (.aload_n 1, 1) := by decide +kernel
theorem dL_law_793 : decode cL_law 793 = .ok (.aload_n 0, 1) := by decide +kernel
theorem dL_law_794 : decode cL_law 794 = .ok (.iload_n 3, 1) := by decide +kernel
theorem dL_law_795 : decode cL_law 795 = .ok (.iconst 1, 1) := by decide +kernel
theorem dL_law_796 : decode cL_law 796 = .ok (.iadd, 1) := by decide +kernel
theorem dL_law_797 : decode cL_law 797 = .ok (.iaload, 1) := by decide +kernel
theorem dL_law_798 : decode cL_law 798 = .ok (.invokevirtual 107, 3) := by decide +kernel
theorem dL_law_801 : decode cL_law 801 = .ok (.aload_n 2, 1) := by decide +kernel
theorem dL_law_802 : decode cL_law 802 = .ok (.aload_n 0, 1) := by decide +kernel
theorem dL_law_803 : decode cL_law 803 = .ok (.iload_n 3, 1) := by decide +kernel
theorem dL_law_804 : decode cL_law 804 = .ok (.iconst 1, 1) := by decide +kernel
theorem dL_law_805 : decode cL_law 805 = .ok (.iadd, 1) := by decide +kernel
theorem dL_law_806 : decode cL_law 806 = .ok (.iaload, 1) := by decide +kernel
theorem dL_law_807 : decode cL_law 807 = .ok (.invokevirtual 110, 3) := by decide +kernel
theorem dL_law_810 : decode cL_law 810 = .ok (.if_icmp .eq 18, 3) := by decide +kernel
theorem dL_law_813 : decode cL_law 813 = .ok (.iconst 0, 1) := by decide +kernel
theorem dL_law_814 : decode cL_law 814 = .ok (.ireturn, 1) := by decide +kernel
theorem dL_law_815 : decode cL_law 815 = .ok (.aload_n 1, 1) := by decide +kernel
theorem dL_law_816 : decode cL_law 816 = .ok (.invokevirtual 111, 3) := by decide +kernel
theorem dL_law_819 : decode cL_law 819 = .ok (.aload_n 2, 1) := by decide +kernel
theorem dL_law_820 : decode cL_law 820 = .ok (.invokevirtual 114, 3) := by decide +kernel
theorem dL_law_823 : decode cL_law 823 = .ok (.if_icmp .eq 5, 3) := by decide +kernel
theorem dL_law_826 : decode cL_law 826 = .ok (.iconst 0, 1) := by decide +kernel
theorem dL_law_827 : decode cL_law 827 = .ok (.ireturn, 1) := by decide +kernel
theorem dL_law_828 : decode cL_law 828 = .ok (.iinc 3 5, 3) := by decide +kernel
theorem dL_law_831 : decode cL_law 831 = .ok (.goto (-813), 3) := by decide +kernel
theorem dL_law_834 : decode cL_law 834 = .ok (.iconst 1, 1) := by decide +kernel
theorem dL_law_835 : decode cL_law 835 = .ok (.ireturn, 1) := by decide +kernel
abbrev vwCl : List vw_C := [(RX0, TX0, 8), (RX1, TX1, 9), (RX2, TX2, 16)]
end
section
/-! THE CLAIM OUT OF ONE WALK OF THE LAW'S BODY. Your part is whole_start (and what it stands on); all else here is the same for every law, but numbers. -/
def R_law : String := "GracefulRestartLaw"
def lw_P (b : Addr) (xs : List Int32) (args : Array Value) (s : State) : Prop := args = #[.ref b] ∧ s.IntsAt b xs ∧ xs.length ≤ 2560 ∧ (Jvm.Cond.and given_1 narrow_1).before args s = true
def lw_Q (_ : Array Value) (s : State) (o : Outcome) (t : State) : Prop := o = .returned (some (.int 1)) ∧ Framed s o t [] 600000 7302250
def lw_Z (below : List Frame) (a : Array Value) (s : State) : State → Prop := fun t => ∃ o, t.status = .running ∧ Ended t below o ∧ lw_Q a s o t
/-- the law's own end, with 1 on the stack, nothing written that was there before, its room as the claim has it -/
theorem lw_ret {p : Program} {l : Launch} {e : Env} {s : State} {m : MethodId} {below : List Frame} {meth : Method} {c : Code} {b : Nat} (hx : p.tables.exec = Jvm.exec) (hb : c.code = code) (hr : meth.sig.returnType = ret) (hlocks : meth.locks = false) {pc : Nat} {H : Heap} {ls : Array Slot} (hdg : decode code pc = .ok (.ireturn, 1)) : W p l e room_1 s m #[Value.ref b] below meth c H [] 600000 7302250 (lw_Z below #[Value.ref b] s) (F0 m pc ls [.int 1]) := by
  intro T hT X
  obtain ⟨fs, hret, hrun, hended, hW, hframe⟩ := X.leave (v := some (.int 1)) (hlocks := hlocks) (fun h => by rw [hr] at h; cases h)
  have hmeth' : T.vm.method? m = some meth := X.method'
  refine ⟨T.setFrames fs, ?_, .returned (some (.int 1)), hrun, hended, rfl, ⟨_, rfl⟩, hW, hframe⟩
  jvm_step X.here [X.here.top, hx, hb, hdg, hmeth', hr, ret, narrow_b1]
  (try refine ⟨rfl, ?_⟩); (try refine ⟨rfl, ?_⟩)
  first | (intro acts; rw [hret _ acts rfl rfl rfl]) | rw [hret _ _ rfl rfl rfl]
  exact Steps.refl _
/-- what holds at the law's entry: the machine, the code, the tables' words (any of lw_tbl by 'hts w (by decide +kernel)'), the script of L ints xs at the cell b, what the Statement gives of the start (any of its parts by flat_of_before) -/
def lw_At (p : Program) (s : State) (m : MethodId) (meth : Method) (c : Code) (b L : Nat) (xs : Nat → Int32) : Prop :=
  p.tables.exec = Jvm.exec ∧ c.code = code ∧ meth.sig.returnType = ret ∧ c.maxLocals = 4 ∧ s.vm.findClass R_law = some m.cls ∧ (∀ w ∈ lw_tbl, w.before #[Value.ref b] s = true) ∧ va_X b L xs s s.heap ∧ b < s.heap.size ∧ meth.locks = false ∧ (Jvm.Cond.and given_1 narrow_1).before #[Value.ref b] s = true
end
section
/-! the writer's own layer over the kit: one contract form (args, world before, answer, world behind), rows with places by numbers -/
abbrev kTy (cI cZ cP : ClassId) : List (ClassId × FieldType) := [(cI, .int), (cZ, .boolean), (cP, .object "GracefulRestart$Peer")]
/-- the nest links that the class uses -/
def kNs : List Cond := [.fieldLinkNest RX1 61 RX0 "offers" "[I" RX1, .fieldLinkNest RX1 113 RX0 "learned" "[I" RX1, .fieldLinkNest RX1 116 RX0 "staleLearned" "[Z" RX1, .fieldLinkNest RX1 71 RX0 "state" "I" RX1, .fieldLinkNest RX1 107 RX0 "restartLeft" "I" RX1, .fieldLinkNest RX1 110 RX0 "staleLeft" "I" RX1, .fieldLinkNest RX1 68 RX0 "marks" "I" RX1,
  .methodLinkNest RX1 47 yX0_init RX1, .methodLinkNest RX1 130 yX0_knownOffer RX1, .methodLinkNest RX1 138 yX0_hearNothing RX1, .methodLinkNest RX1 141 yX0_learn RX1, .methodLinkNest RX1 74 yX0_loseRouter RX1, .methodLinkNest RX1 103 yX0_isAwaited RX1, .methodLinkNest RX1 90 yX0_endResync RX1, .methodLinkNest RX1 87 yX0_meetRouter RX1, .methodLinkNest RX1 93 yX0_countOffers RX1, .methodLinkNest RX1 97 yX0_goDown RX1, .methodLinkNest RX1 151 yX0_countDown RX1]
def kN (U : State) : Prop := ∀ w ∈ kNs, va_Nw w U
theorem kN.warm {s U : State} (hW : s.WarmedH U.vm) (h : kN s) : kN U := by
  intro w hw
  have h0 := h w hw
  simp only [kNs, List.mem_cons, List.not_mem_nil, or_false] at hw
  rcases hw with rfl | rfl | rfl | rfl | rfl | rfl | rfl | rfl | rfl | rfl | rfl | rfl | rfl | rfl | rfl | rfl | rfl | rfl <;> first | exact va_Nw.warmF hW h0 | exact va_Nw.warmM hW h0
theorem kN.same {u U : State} (h : u.vm = U.vm) (hN : kN u) : kN U := by
  intro w hw
  have h0 := hN w hw
  simp only [kNs, List.mem_cons, List.not_mem_nil, or_false] at hw
  rcases hw with rfl | rfl | rfl | rfl | rfl | rfl | rfl | rfl | rfl | rfl | rfl | rfl | rfl | rfl | rfl | rfl | rfl | rfl <;> exact va_Nw.same rfl h h0
/-- the cells of a world -/
def kA (W0 : va_W) : Nat → Prop := fun q => ∃ (k : Nat) (e : va_E), W0[k]? = some (q, e)
def kPre (D : va_G) (tys : List (ClassId × FieldType)) (W0 : va_W) (U : State) : Prop := va_P D vwCl W0 U.heap ∧ va_K D vwCl tys U ∧ kN U ∧ va_D (fun _ => True) W0
def kPost (D : va_G) (W0 W1 : va_W) (o : Option Value) : Array Value → State → Outcome → State → Prop := fun _ st oc t => oc = .returned o ∧ va_P D vwCl W1 t.heap ∧ va_F (kA W0) st t
def MM (l : Launch) (y : MethodName) (ws : List Cond) (rm : Room) (D : va_G) (tys : List (ClassId × FieldType)) (av : List Value) (W0 : va_W) (o : Option Value) (W1 : va_W) : Prop := Met l y ws rm (va_Pc av (kPre D tys W0)) (kPost D W0 W1 o) 0 0 (kA W0)
theorem kBlind {D : va_G} {tys : List (ClassId × FieldType)} {av : List Value} {W0 : va_W} : FrameBlind (va_Pc av (kPre D tys W0)) := fun a U g mk q => by
  obtain ⟨q0, qP, qK, qN, qD⟩ := q
  exact ⟨q0, qP, va_K.moved (u := U) (U := U.calling g mk a) (Vm.Alike.refl U.vm) qK, kN.same (u := U) (U := U.calling g mk a) rfl qN, qD⟩
theorem kD_adr {A : Nat → Prop} {ws ws' : va_W} (h : va_D A ws) (e : ws'.map (·.1) = ws.map (·.1)) : va_D A ws' := by
  have key : ∀ (k : Nat) (q : Nat × va_E), ws'[k]? = some q → ∃ q0, ws[k]? = some q0 ∧ q0.1 = q.1 := by
    intro k q hk
    have h1 : (ws'.map (·.1))[k]? = some q.1 := by rw [List.getElem?_map, hk]; rfl
    rw [e, List.getElem?_map] at h1
    cases hw : ws[k]? with
    | none => rw [hw] at h1; cases h1
    | some q0 => rw [hw] at h1; exact ⟨q0, rfl, Option.some.inj h1⟩
  refine ⟨fun i j x y hi hj hxy => ?_, fun k q hk => ?_⟩
  · obtain ⟨x0, a1, a2⟩ := key i x hi
    obtain ⟨y0, b1, b2⟩ := key j y hj
    exact h.1 i j x0 y0 a1 b1 (a2.trans (hxy.trans b2.symm))
  · obtain ⟨q0, a1, a2⟩ := key k q hk
    rw [← a2]
    exact h.2 k q0 a1
theorem kD_self {A : Nat → Prop} {ws : va_W} (h : va_D A ws) : va_D (kA ws) ws := ⟨h.1, fun k q hk => ⟨k, q.2, hk⟩⟩
/-- a method's walk gives its contract -/
theorem MM.ofW {l : Launch} {y : MethodName} {ws ws' : List Cond} {rm : Room} {D : va_G} {tys : List (ClassId × FieldType)} {av : List Value} {W0 W1 : va_W} {o : Option Value} {cc : ByteArray} {maxL : Nat} {ret : Option FieldType}
    (hy : plainName y.cls = true) (hw : ws = Cond.code y cc maxL ret :: ws') (hal : (lg_sl av).length ≤ maxL)
    (body : ∀ (p : Program) (e : Env) (s : State) (m : MethodId) (below : List Frame) (meth : Method) (c : Code) (ls : Array Slot) (A : Nat → Prop), p.tables.exec = Jvm.exec → c.code = cc → meth.sig.returnType = ret → meth.locks = false → c.maxLocals = maxL → (∀ w ∈ ws, w.before av.toArray s = true) → s.vm.findClass y.cls = some m.cls → va_K D vwCl tys s → kN s → va_P D vwCl W0 s.heap → va_D A W0 → va_S A s.heap s.heap [] → A = kA W0 → lv_has ls maxL (lv_args 0 av) →
      W p l e (headSpec ws rm).room s m av.toArray below meth c s.heap [] 0 0 (MQ below (kPost D W0 W1 o) av.toArray s 0 0 (kA W0)) (F0 m 0 ls [])) : MM l y ws rm D tys av W0 o W1 := by
  refine Met.ofW (cc := cc) (maxL := maxL) (ret := ret) hy hw ?_
  intro p e s m args below meth c s₁ B hml hv
  obtain ⟨rfl, hP, hK, hN, hD0⟩ := hv
  have hl := lv_entry av (n := maxL) hal
  rw [lg_entry_eq]
  exact body p e s m below meth c _ (kA W0) B.exec B.bytes B.returns B.notSynchronized hml (atoms_spec (ws := ws) B.pre) (findClass_of_methodNamed B.named) hK hN hP (kD_self hD0) va_S.rf rfl hl
section KW
variable {p : Program} {l : Launch} {e : Env} {R : Room} {s : State} {m : MethodId} {args : Array Value} {below : List Frame} {meth : Method} {c : Code} {H : Heap} {locs : List Loc} {cells slots : Nat} {Q : State → Prop}
variable {cc : ByteArray} {pc : Nat} {ls : Array Slot} {rest : List Value} {D : va_G} {cl : List vw_C} {A : Nat → Prop} {a : Nat} {tys : List (ClassId × FieldType)} {ws : va_W} {H0 : Heap}
/-- returns -/
theorem k_iret {W0 W1 Wd : va_W} {v v' : Int32} (hx : p.tables.exec = Jvm.exec) (hb : c.code = cc) (hr : meth.sig.returnType = some .int) (hlk : meth.locks = false) (hP : va_P D vwCl Wd H) (hS : va_S A s.heap H locs) (hAe : A = kA W0) (hv : v = v') (hW : Wd = W1) (hdg : decode cc pc = .ok (.ireturn, 1)) :
    W p l e R s m args below meth c H locs 0 0 (MQ below (kPost D W0 W1 (some (.int v'))) args s 0 0 (kA W0)) (F0 m pc ls [.int v]) := by
  subst hv; subst hW; subst hAe
  exact W.iret hx hb hr (fun t ht _ => ⟨rfl, by rw [ht]; exact hP, hS.F ht⟩) hS.2.2 hdg hlk
theorem k_zret {W0 W1 Wd : va_W} {v v' : Int32} (hx : p.tables.exec = Jvm.exec) (hb : c.code = cc) (hr : meth.sig.returnType = some .boolean) (hlk : meth.locks = false) (hP : va_P D vwCl Wd H) (hS : va_S A s.heap H locs) (hAe : A = kA W0) (hn : narrow .boolean (.int v) = .int v) (hv : v = v') (hW : Wd = W1) (hdg : decode cc pc = .ok (.ireturn, 1)) :
    W p l e R s m args below meth c H locs 0 0 (MQ below (kPost D W0 W1 (some (.int v'))) args s 0 0 (kA W0)) (F0 m pc ls [.int v]) := by
  subst hv; subst hW; subst hAe
  exact W.zret hx hb hr hn (fun t ht _ => ⟨rfl, by rw [ht]; exact hP, hS.F ht⟩) hS.2.2 hdg hlk
theorem k_vret {W0 W1 Wd : va_W} (hx : p.tables.exec = Jvm.exec) (hb : c.code = cc) (hr : meth.sig.returnType = none) (hlk : meth.locks = false) (hP : va_P D vwCl Wd H) (hS : va_S A s.heap H locs) (hAe : A = kA W0) (hW : Wd = W1) (hdg : decode cc pc = .ok (.return_, 1)) :
    W p l e R s m args below meth c H locs 0 0 (MQ below (kPost D W0 W1 none) args s 0 0 (kA W0)) (F0 m pc ls []) := by
  subst hW; subst hAe
  exact W.vret hx hb hr (fun t ht _ => ⟨rfl, by rw [ht]; exact hP, hS.F ht⟩) hS.2.2 hdg hlk
theorem k_aret {W0 W1 Wd : va_W} {r r' : Option Nat} {C : String} (hx : p.tables.exec = Jvm.exec) (hb : c.code = cc) (hr : meth.sig.returnType = some (.object C)) (hlk : meth.locks = false) (hP : va_P D vwCl Wd H) (hS : va_S A s.heap H locs) (hAe : A = kA W0) (hv : r = r') (hW : Wd = W1) (hdg : decode cc pc = .ok (.areturn, 1)) :
    W p l e R s m args below meth c H locs 0 0 (MQ below (kPost D W0 W1 (some (va_rf r'))) args s 0 0 (kA W0)) (F0 m pc ls [va_rf r]) := by
  subst hv; subst hW; subst hAe
  exact W.aret hx hb hr (Or.inl ⟨_, rfl⟩) (va_rf_or _) (fun t ht _ => ⟨rfl, by rw [ht]; exact hP, hS.F ht⟩) hS.2.2 hdg hlk
/-- arrays, by a number -/
theorem k_iald (hx : p.tables.exec = Jvm.exec) (hb : c.code = cc) (hK : va_K D cl tys s) (hP : va_P D cl ws H) (q0 t0 : Nat) {cA : ClassId} {n : Nat} {f : Nat → Int32} (ha : ws[q0]? = some (a, .inl (cA, n, .inl f))) (ht : tys[t0]? = some (cA, .int)) {i : Int32} {k : Nat} (hi : i = nI k) (hk : k < n) (hn : n < 2 ^ 31) (hdg : decode cc pc = .ok (.iaload, 1))
    (kk : W p l e R s m args below meth c H locs cells slots Q (F0 m (pc + 1) ls (.int (f k) :: rest))) : W p l e R s m args below meth c H locs cells slots Q (F0 m pc ls (.int i :: .ref a :: rest)) := by
  subst hi
  refine va_iald hx hb hK hP q0 t0 ha ht (vp_in_nI hk hn) hdg ?_
  rw [nI_clamp (Nat.lt_trans hk hn)]
  exact kk
theorem k_zald (hx : p.tables.exec = Jvm.exec) (hb : c.code = cc) (hK : va_K D cl tys s) (hP : va_P D cl ws H) (q0 t0 : Nat) {cA : ClassId} {n : Nat} {f : Nat → Int32} (ha : ws[q0]? = some (a, .inl (cA, n, .inl f))) (ht : tys[t0]? = some (cA, .boolean)) {i : Int32} {k : Nat} (hi : i = nI k) (hk : k < n) (hn : n < 2 ^ 31) (hdg : decode cc pc = .ok (.baload, 1))
    (kk : W p l e R s m args below meth c H locs cells slots Q (F0 m (pc + 1) ls (.int (f k) :: rest))) : W p l e R s m args below meth c H locs cells slots Q (F0 m pc ls (.int i :: .ref a :: rest)) := by
  subst hi
  refine va_zald hx hb hK hP q0 t0 ha ht (vp_in_nI hk hn) hdg ?_
  rw [nI_clamp (Nat.lt_trans hk hn)]
  exact kk
theorem k_aald (hx : p.tables.exec = Jvm.exec) (hb : c.code = cc) (hK : va_K D cl tys s) (hP : va_P D cl ws H) (q0 t0 : Nat) {cA : ClassId} {C : String} {n : Nat} {f : Nat → Option Nat} (ha : ws[q0]? = some (a, .inl (cA, n, .inr (.inr (.inr (.inr f)))))) (ht : tys[t0]? = some (cA, .object C)) {i : Int32} {k : Nat} {v : Value} (hi : i = nI k) (hk : k < n) (hn : n < 2 ^ 31) (hv : va_rf (f k) = v) (hdg : decode cc pc = .ok (.aaload, 1))
    (kk : W p l e R s m args below meth c H locs cells slots Q (F0 m (pc + 1) ls (v :: rest))) : W p l e R s m args below meth c H locs cells slots Q (F0 m pc ls (.int i :: .ref a :: rest)) := by
  subst hi; subst hv
  refine va_aldq hx hb hK hP q0 t0 ha ht (vp_in_nI hk hn) hdg ?_
  rw [nI_clamp (Nat.lt_trans hk hn)]
  exact kk
theorem k_iast (hx : p.tables.exec = Jvm.exec) (hb : c.code = cc) (hK : va_K D cl tys s) (hP : va_P D cl ws H) (hD : va_D A ws) (hS : va_S A H0 H locs) (q0 t0 : Nat) {cA : ClassId} {n : Nat} {f : Nat → Int32} (ha : ws[q0]? = some (a, .inl (cA, n, .inl f))) (ht : tys[t0]? = some (cA, .int)) {i x : Int32} {k : Nat} (hi : i = nI k) (hk : k < n) (hn : n < 2 ^ 31) {W1 : va_W} (hW : ws.set q0 (a, .inl (cA, n, .inl (upd f k x))) = W1) (hdg : decode cc pc = .ok (.iastore, 1))
    (kk : ∀ (H1 : Heap) (locs1 : List Loc), va_P D cl W1 H1 → va_D A W1 → va_S A H0 H1 locs1 → W p l e R s m args below meth c H1 locs1 cells slots Q (F0 m (pc + 1) ls rest)) : W p l e R s m args below meth c H locs cells slots Q (F0 m pc ls (.int x :: .int i :: .ref a :: rest)) := by
  subst hi; subst hW
  refine va_iast hx hb hK hP hD hS q0 t0 ha ht (vp_in_nI hk hn) hdg (fun H1 locs1 h1 h2 h3 => ?_)
  rw [nI_clamp (Nat.lt_trans hk hn)] at h1 h2
  exact kk H1 locs1 h1 h2 h3
theorem k_zast (hx : p.tables.exec = Jvm.exec) (hb : c.code = cc) (hK : va_K D cl tys s) (hP : va_P D cl ws H) (hD : va_D A ws) (hS : va_S A H0 H locs) (q0 t0 : Nat) {cA : ClassId} {n : Nat} {f : Nat → Int32} (ha : ws[q0]? = some (a, .inl (cA, n, .inl f))) (ht : tys[t0]? = some (cA, .boolean)) {i x : Int32} {k : Nat} (hi : i = nI k) (hk : k < n) (hn : n < 2 ^ 31) (hb1 : vp_nar .boolean x = x) {W1 : va_W} (hW : ws.set q0 (a, .inl (cA, n, .inl (upd f k x))) = W1) (hdg : decode cc pc = .ok (.bastore, 1))
    (kk : ∀ (H1 : Heap) (locs1 : List Loc), va_P D cl W1 H1 → va_D A W1 → va_S A H0 H1 locs1 → W p l e R s m args below meth c H1 locs1 cells slots Q (F0 m (pc + 1) ls rest)) : W p l e R s m args below meth c H locs cells slots Q (F0 m pc ls (.int x :: .int i :: .ref a :: rest)) := by
  subst hi; subst hW
  refine va_zast hx hb hK hP hD hS q0 t0 ha ht (vp_in_nI hk hn) hdg (fun H1 locs1 h1 h2 h3 => ?_)
  rw [nI_clamp (Nat.lt_trans hk hn), hb1] at h1 h2
  exact kk H1 locs1 h1 h2 h3
/-- a number on the stack under another name -/
theorem k_top {x y : Int32} (h : x = y) (kk : W p l e R s m args below meth c H locs cells slots Q (F0 m pc ls (.int y :: rest))) : W p l e R s m args below meth c H locs cells slots Q (F0 m pc ls (.int x :: rest)) := by
  rw [h]; exact kk
/-- behind a call -/
theorem kcall {Wd Wd1 Wc Wc1 : va_W} {o : Option Value} {st0 : List Value} {av : Array Value} (hr : va_Run p l e R s m args below meth c H locs cells slots 0 0 (F0 m pc ls st0) rest (kPost D Wc Wc1 o av) (kA Wc)) (hP : va_P D vwCl Wd H) (hD : va_D A Wd) (hS : va_S A H0 H locs) (f : Nat → Nat) (hf : ∀ (j : Nat) (q : Nat × va_E), Wc[j]? = some q → Wd[f j]? = some q) (hadr : Wd1.map (·.1) = Wd.map (·.1)) (hnew : ∀ (k : Nat) (q : Nat × va_E), Wd1[k]? = some q → (∃ j : Nat, Wc1[j]? = some q) ∨ (Wd[k]? = some q ∧ ∀ j : Nat, j < Wc.length → k ≠ f j))
    (kk : ∀ (H1 : Heap) (locs1 : List Loc), va_P D vwCl Wd1 H1 → va_D A Wd1 → va_S A H0 H1 locs1 → W p l e R s m args below meth c H1 locs1 cells slots Q (F0 m (pc + 3) ls (o.toList ++ rest))) : W p l e R s m args below meth c H locs cells slots Q (F0 m pc ls st0) := by
  intro T hT X
  obtain ⟨v, st₀, t, T', L, h0, X', hL, e1, e2, ⟨hv, hp, hz, hk⟩, st⟩ := hr T hT X
  cases hv
  rw [h0] at hz hk
  have hcA : ∀ q, kA Wc q → A q := by
    rintro q ⟨j, e9, hj⟩
    exact hD.2 _ _ (hf j _ hj)
  have hP1 : va_P D vwCl Wd1 T'.heap := by
    intro k q hq
    rcases hnew k q hq with ⟨j, hj⟩ | ⟨h1, h2⟩
    · rw [e1]; exact hp j q hj
    · refine (hP k q h1).kept ?_
      rw [e1]
      refine hk q.1 (hP k q h1).lt ?_
      rintro ⟨j, e9, hj⟩
      have h3 := hf j _ hj
      exact h2 j (List.getElem?_eq_some_iff.mp hj).1 (hD.1 k (f j) q _ h1 h3 rfl)
  obtain ⟨t2, a1, b1⟩ := kk T'.heap (locs ++ L) hP1 (kD_adr hD hadr)
    ⟨Nat.le_trans hS.1 (by rw [e1]; exact hz), fun q h1 h2 => by rw [e1, hk q (Nat.lt_of_lt_of_le h1 hS.1) (fun z => h2 (hcA q z))]; exact hS.2.1 q h1 h2, fun q hq => by
      rcases List.mem_append.mp hq with h | h
      · exact hS.2.2 q h
      · exact hcA _ (hL q h)⟩ T' rfl X'
  exact ⟨t2, st t2 a1, b1⟩
variable {Ts wsy : List Cond} {bytes : ByteArray} {nL maxL index n : Nat} {own C host : String} {y : MethodName} {ret : Option FieldType} {rm : Room} {b : Addr} {As : List Value} {Wd Wd1 Wc Wc1 : va_W} {o : Option Value} {st0 : List Value}
theorem kPreOf (hK : va_K D vwCl tys s) (hN : kN s) (hP : va_P D vwCl Wd H) (hD : va_D A Wd) (f : Nat → Nat) (hf : ∀ (j : Nat) (q : Nat × va_E), Wc[j]? = some q → Wd[f j]? = some q) (hinj : ∀ i j : Nat, i < Wc.length → j < Wc.length → f i = f j → i = j) {av : List Value} : ∀ U : State, U.heap = H → s.WarmedH U.vm → va_Pc av (kPre D tys Wc) av.toArray U := by
  intro U hU hW
  refine ⟨rfl, fun k q hk => by rw [hU]; exact hP _ q (hf k q hk), va_K.moved hW.alike hK, kN.warm hW hN, ⟨fun i j x z hi hj hxz => ?_, fun _ _ _ => trivial⟩⟩
  exact hinj i j (List.getElem?_eq_some_iff.mp hi).1 (List.getElem?_eq_some_iff.mp hj).1 (hD.1 _ _ x z (hf i x hi) (hf j z hj) hxz)
/-- a virtual call inside the class, or a public one -/
theorem kV (S : CallFix p m c cc nL s args Ts own) (hM : MM l y wsy rm D tys (.ref b :: As) Wc o Wc1) (cw : CallW R s args own C index y bytes maxL ret wsy rm 0 0 n) (hK : va_K D vwCl tys s) (hN : kN s) (hP : va_P D vwCl Wd H) (hD : va_D A Wd) (hS : va_S A H0 H locs) (f : Nat → Nat) (hf : ∀ (j : Nat) (q : Nat × va_E), Wc[j]? = some q → Wd[f j]? = some q) (hinj : ∀ i j : Nat, i < Wc.length → j < Wc.length → f i = f j → i = j) (hadr : Wd1.map (·.1) = Wd.map (·.1)) (hnew : ∀ (k : Nat) (q : Nat × va_E), Wd1[k]? = some q → (∃ j : Nat, Wc1[j]? = some q) ∨ (Wd[k]? = some q ∧ ∀ j : Nat, j < Wc.length → k ≠ f j))
    (q0 ci : Nat) {qc : vw_C} {fs : List Value} (hc : vwCl[ci]? = some qc) (hC : qc.1 = C) (he : Wd[q0]? = some (b, .inr (ci, fs))) (hn : As.length = n) (hsz : ls.size = nL) (hst : st0 = As.reverse ++ .ref b :: rest) (hW : (rest.map fun v => v.category).sum ≤ 8) (hcs : cells ≤ R.cells ∧ slots ≤ R.slots) (hdg : decode cc pc = .ok (.invokevirtual index, 3))
    (kk : ∀ (H1 : Heap) (locs1 : List Loc), va_P D vwCl Wd1 H1 → va_D A Wd1 → va_S A H0 H1 locs1 → W p l e R s m args below meth c H1 locs1 cells slots Q (F0 m (pc + 3) ls (o.toList ++ rest))) : W p l e R s m args below meth c H locs cells slots Q (F0 m pc ls st0) := by
  subst hC
  exact kcall (va_runV S hM cw ⟨kBlind, va_recv hK hP hc he, kPreOf hK hN hP hD f hf hinj⟩ rfl hn hsz hst (lv_room hW) hdg hcs) hP hD hS f hf hadr hnew kk
/-- a virtual call of a nest mate's private method -/
theorem kVN (S : CallFix p m c cc nL s args Ts own) (hM : MM l y wsy rm D tys (.ref b :: As) Wc o Wc1) (cw : va_CN R s args own index y host bytes maxL ret wsy rm 0 0 n ∧ (Cond.instanceMethod y).before args s = true ∧ (Cond.selects C y y).before args s = true) (hK : va_K D vwCl tys s) (hN : kN s) (hP : va_P D vwCl Wd H) (hD : va_D A Wd) (hS : va_S A H0 H locs) (f : Nat → Nat) (hf : ∀ (j : Nat) (q : Nat × va_E), Wc[j]? = some q → Wd[f j]? = some q) (hinj : ∀ i j : Nat, i < Wc.length → j < Wc.length → f i = f j → i = j) (hadr : Wd1.map (·.1) = Wd.map (·.1)) (hnew : ∀ (k : Nat) (q : Nat × va_E), Wd1[k]? = some q → (∃ j : Nat, Wc1[j]? = some q) ∨ (Wd[k]? = some q ∧ ∀ j : Nat, j < Wc.length → k ≠ f j))
    (q0 ci : Nat) {qc : vw_C} {fs : List Value} (hc : vwCl[ci]? = some qc) (hC : qc.1 = C) (he : Wd[q0]? = some (b, .inr (ci, fs))) (hn : As.length = n) (hsz : ls.size = nL) (hst : st0 = As.reverse ++ .ref b :: rest) (hW : (rest.map fun v => v.category).sum ≤ 8) (hcs : cells ≤ R.cells ∧ slots ≤ R.slots) (hdg : decode cc pc = .ok (.invokevirtual index, 3))
    (kk : ∀ (H1 : Heap) (locs1 : List Loc), va_P D vwCl Wd1 H1 → va_D A Wd1 → va_S A H0 H1 locs1 → W p l e R s m args below meth c H1 locs1 cells slots Q (F0 m (pc + 3) ls (o.toList ++ rest))) : W p l e R s m args below meth c H locs cells slots Q (F0 m pc ls st0) := by
  subst hC
  exact kcall (va_runVN S hM cw ⟨kBlind, va_recv hK hP hc he, kPreOf hK hN hP hD f hf hinj⟩ rfl hn hsz hst (lv_room hW) hdg hcs) hP hD hS f hf hadr hnew kk
/-- a static call that touches no cell -/
theorem kS0 (S : CallFix p m c cc nL s args Ts own) (hM : MM l y wsy rm D tys As [] o []) (cw : CallB R s args own index y bytes maxL ret wsy rm 0 0 n ∧ (Cond.static y).before args s = true) (hK : va_K D vwCl tys s) (hN : kN s) (hP : va_P D vwCl Wd H) (hD : va_D A Wd) (hS : va_S A H0 H locs)
    (hn : As.length = n) (hsz : ls.size = nL) (hst : st0 = As.reverse ++ rest) (hW : (rest.map fun v => v.category).sum ≤ 8) (hcs : cells ≤ R.cells ∧ slots ≤ R.slots) (hdg : decode cc pc = .ok (.invokestatic index, 3))
    (kk : ∀ (H1 : Heap) (locs1 : List Loc), va_P D vwCl Wd H1 → va_D A Wd → va_S A H0 H1 locs1 → W p l e R s m args below meth c H1 locs1 cells slots Q (F0 m (pc + 3) ls (o.toList ++ rest))) : W p l e R s m args below meth c H locs cells slots Q (F0 m pc ls st0) :=
  kcall (va_runS S hM cw ⟨kBlind, kPreOf hK hN hP hD (fun j => j) (fun j q h => by simp at h) (fun i j h => by simp at h)⟩ rfl hn hsz hst (lv_room hW) hdg hcs) hP hD hS (fun j => j) (fun j q h => by simp at h) rfl (fun k q h => Or.inr ⟨h, fun j hj => by simp at hj⟩) kk
end KW
end
section
/-! the state of both sides, as one value; the worlds that hold it -/
abbrev FR : Type := Nat → Int32
abbrev GR : Type := Nat → Nat → Int32
abbrev ST : Type := Int32 × Int32 × Int32 × Nat × FR × FR × FR × FR × GR × GR × GR × GR × FR × FR × FR × Int32 × Int32
def g_T1 (S : ST) : Int32 := S.1
def g_T2 (S : ST) : Int32 := S.2.1
def g_T3 (S : ST) : Int32 := S.2.2.1
def g_N (S : ST) : Nat := S.2.2.2.1
def g_Gr (S : ST) : FR := S.2.2.2.2.1
def g_St (S : ST) : FR := S.2.2.2.2.2.1
def g_Rt (S : ST) : FR := S.2.2.2.2.2.2.1
def g_Sl (S : ST) : FR := S.2.2.2.2.2.2.2.1
def g_Hm (S : ST) : GR := S.2.2.2.2.2.2.2.2.1
def g_Of (S : ST) : GR := S.2.2.2.2.2.2.2.2.2.1
def g_Le (S : ST) : GR := S.2.2.2.2.2.2.2.2.2.2.1
def g_Ss (S : ST) : GR := S.2.2.2.2.2.2.2.2.2.2.2.1
def g_Ho (S : ST) : FR := S.2.2.2.2.2.2.2.2.2.2.2.2.1
def g_Hs (S : ST) : FR := S.2.2.2.2.2.2.2.2.2.2.2.2.2.1
def g_Hz (S : ST) : FR := S.2.2.2.2.2.2.2.2.2.2.2.2.2.2.1
def g_Df (S : ST) : Int32 := S.2.2.2.2.2.2.2.2.2.2.2.2.2.2.2.1
def g_Dl (S : ST) : Int32 := S.2.2.2.2.2.2.2.2.2.2.2.2.2.2.2.2
def s_T1 (S : ST) (v : Int32) : ST := (v, S.2)
def s_T2 (S : ST) (v : Int32) : ST := (S.1, v, S.2.2)
def s_T3 (S : ST) (v : Int32) : ST := (S.1, S.2.1, v, S.2.2.2)
def s_N (S : ST) (v : Nat) : ST := (S.1, S.2.1, S.2.2.1, v, S.2.2.2.2)
def s_Gr (S : ST) (v : FR) : ST := (S.1, S.2.1, S.2.2.1, S.2.2.2.1, v, S.2.2.2.2.2)
def s_St (S : ST) (v : FR) : ST := (S.1, S.2.1, S.2.2.1, S.2.2.2.1, S.2.2.2.2.1, v, S.2.2.2.2.2.2)
def s_Rt (S : ST) (v : FR) : ST := (S.1, S.2.1, S.2.2.1, S.2.2.2.1, S.2.2.2.2.1, S.2.2.2.2.2.1, v, S.2.2.2.2.2.2.2)
def s_Sl (S : ST) (v : FR) : ST := (S.1, S.2.1, S.2.2.1, S.2.2.2.1, S.2.2.2.2.1, S.2.2.2.2.2.1, S.2.2.2.2.2.2.1, v, S.2.2.2.2.2.2.2.2)
def s_Hm (S : ST) (v : GR) : ST := (S.1, S.2.1, S.2.2.1, S.2.2.2.1, S.2.2.2.2.1, S.2.2.2.2.2.1, S.2.2.2.2.2.2.1, S.2.2.2.2.2.2.2.1, v, S.2.2.2.2.2.2.2.2.2)
def s_Of (S : ST) (v : GR) : ST := (S.1, S.2.1, S.2.2.1, S.2.2.2.1, S.2.2.2.2.1, S.2.2.2.2.2.1, S.2.2.2.2.2.2.1, S.2.2.2.2.2.2.2.1, S.2.2.2.2.2.2.2.2.1, v, S.2.2.2.2.2.2.2.2.2.2)
def s_Le (S : ST) (v : GR) : ST := (S.1, S.2.1, S.2.2.1, S.2.2.2.1, S.2.2.2.2.1, S.2.2.2.2.2.1, S.2.2.2.2.2.2.1, S.2.2.2.2.2.2.2.1, S.2.2.2.2.2.2.2.2.1, S.2.2.2.2.2.2.2.2.2.1, v, S.2.2.2.2.2.2.2.2.2.2.2)
def s_Ss (S : ST) (v : GR) : ST := (S.1, S.2.1, S.2.2.1, S.2.2.2.1, S.2.2.2.2.1, S.2.2.2.2.2.1, S.2.2.2.2.2.2.1, S.2.2.2.2.2.2.2.1, S.2.2.2.2.2.2.2.2.1, S.2.2.2.2.2.2.2.2.2.1, S.2.2.2.2.2.2.2.2.2.2.1, v, S.2.2.2.2.2.2.2.2.2.2.2.2)
def s_Ho (S : ST) (v : FR) : ST := (S.1, S.2.1, S.2.2.1, S.2.2.2.1, S.2.2.2.2.1, S.2.2.2.2.2.1, S.2.2.2.2.2.2.1, S.2.2.2.2.2.2.2.1, S.2.2.2.2.2.2.2.2.1, S.2.2.2.2.2.2.2.2.2.1, S.2.2.2.2.2.2.2.2.2.2.1, S.2.2.2.2.2.2.2.2.2.2.2.1, v, S.2.2.2.2.2.2.2.2.2.2.2.2.2)
def s_Hs (S : ST) (v : FR) : ST := (S.1, S.2.1, S.2.2.1, S.2.2.2.1, S.2.2.2.2.1, S.2.2.2.2.2.1, S.2.2.2.2.2.2.1, S.2.2.2.2.2.2.2.1, S.2.2.2.2.2.2.2.2.1, S.2.2.2.2.2.2.2.2.2.1, S.2.2.2.2.2.2.2.2.2.2.1, S.2.2.2.2.2.2.2.2.2.2.2.1, S.2.2.2.2.2.2.2.2.2.2.2.2.1, v, S.2.2.2.2.2.2.2.2.2.2.2.2.2.2)
def s_Hz (S : ST) (v : FR) : ST := (S.1, S.2.1, S.2.2.1, S.2.2.2.1, S.2.2.2.2.1, S.2.2.2.2.2.1, S.2.2.2.2.2.2.1, S.2.2.2.2.2.2.2.1, S.2.2.2.2.2.2.2.2.1, S.2.2.2.2.2.2.2.2.2.1, S.2.2.2.2.2.2.2.2.2.2.1, S.2.2.2.2.2.2.2.2.2.2.2.1, S.2.2.2.2.2.2.2.2.2.2.2.2.1, S.2.2.2.2.2.2.2.2.2.2.2.2.2.1, v, S.2.2.2.2.2.2.2.2.2.2.2.2.2.2.2)
def s_Df (S : ST) (v : Int32) : ST := (S.1, S.2.1, S.2.2.1, S.2.2.2.1, S.2.2.2.2.1, S.2.2.2.2.2.1, S.2.2.2.2.2.2.1, S.2.2.2.2.2.2.2.1, S.2.2.2.2.2.2.2.2.1, S.2.2.2.2.2.2.2.2.2.1, S.2.2.2.2.2.2.2.2.2.2.1, S.2.2.2.2.2.2.2.2.2.2.2.1, S.2.2.2.2.2.2.2.2.2.2.2.2.1, S.2.2.2.2.2.2.2.2.2.2.2.2.2.1, S.2.2.2.2.2.2.2.2.2.2.2.2.2.2.1, v, S.2.2.2.2.2.2.2.2.2.2.2.2.2.2.2.2)
def s_Dl (S : ST) (v : Int32) : ST := (S.1, S.2.1, S.2.2.1, S.2.2.2.1, S.2.2.2.2.1, S.2.2.2.2.2.1, S.2.2.2.2.2.2.1, S.2.2.2.2.2.2.2.1, S.2.2.2.2.2.2.2.2.1, S.2.2.2.2.2.2.2.2.2.1, S.2.2.2.2.2.2.2.2.2.2.1, S.2.2.2.2.2.2.2.2.2.2.2.1, S.2.2.2.2.2.2.2.2.2.2.2.2.1, S.2.2.2.2.2.2.2.2.2.2.2.2.2.1, S.2.2.2.2.2.2.2.2.2.2.2.2.2.2.1, S.2.2.2.2.2.2.2.2.2.2.2.2.2.2.2.1, v)
/-- rows of rows, laid flat -/
def fl (w : Nat) (L : GR) : FR := fun a => L (a / w) (a % w)
theorem fl_at (w : Nat) (L : GR) {p r : Nat} (h : r < w) : fl w L (w * p + r) = L p r := by
  have h0 : 0 < w := by omega
  simp only [fl]
  rw [Nat.mul_add_div h0, Nat.div_eq_of_lt h, Nat.mul_add_mod, Nat.mod_eq_of_lt h, Nat.add_zero]
theorem fl_up (w : Nat) (L : GR) {p r : Nat} (h : r < w) (v : Int32) : upd (fl w L) (w * p + r) v = fl w (va_up L p (upd (L p) r v)) := by
  have h0 : 0 < w := by omega
  funext a
  have e1 : (w * p + r) / w = p := by rw [Nat.mul_add_div h0, Nat.div_eq_of_lt h, Nat.add_zero]
  have e2 : (w * p + r) % w = r := by rw [Nat.mul_add_mod, Nat.mod_eq_of_lt h]
  by_cases ha : a = w * p + r
  · subst ha
    simp [upd, fl, va_up, e1, e2]
  · by_cases hp : a / w = p
    · have hr : ¬ a % w = r := by
        intro hr
        apply ha
        rw [← hp, ← hr]
        exact (Nat.div_add_mod a w).symm
      simp [upd, fl, va_up, ha, hp, hr]
    · simp [upd, fl, va_up, ha, hp]
/-- cut: places under i where P holds become 0 -/
def kCut (P : Nat → Bool) (i : Nat) (f : FR) : FR := fun r => if r < i ∧ P r = true then 0 else f r
theorem kCut_0 (P : Nat → Bool) (f : FR) : kCut P 0 f = f := by
  funext r; simp [kCut]
theorem kCut_t {P : Nat → Bool} {i : Nat} (f : FR) (h : P i = true) : upd (kCut P i f) i 0 = kCut P (i + 1) f := by
  funext r
  simp only [upd, kCut]
  by_cases hr : r = i
  · subst hr; simp [h]
  · have : (r < i + 1) = (r < i) := by apply propext; omega
    simp only [if_neg hr, this]
theorem kCut_f {P : Nat → Bool} {i : Nat} (f : FR) (h : P i = false) : kCut P i f = kCut P (i + 1) f := by
  funext r
  simp only [kCut]
  by_cases hr : r = i
  · subst hr; simp [h]
  · have : (r < i + 1) = (r < i) := by apply propext; omega
    simp only [this]
theorem kCut_z {P : Nat → Bool} {i : Nat} (f : FR) (h : f i = 0) : kCut P i f = kCut P (i + 1) f := by
  funext r
  simp only [kCut]
  by_cases hr : r = i
  · subst hr; simp [h]
  · have : (r < i + 1) = (r < i) := by apply propext; omega
    simp only [this]
theorem kCut_at (P : Nat → Bool) (i : Nat) (f : FR) : kCut P i f i = f i := by simp [kCut]
/-- count: places under i where P holds -/
def kCnt (P : Nat → Bool) : Nat → Int32
  | 0 => 0
  | i + 1 => if P i = true then kCnt P i + 1 else kCnt P i
theorem kCnt_t {P : Nat → Bool} {i : Nat} (h : P i = true) : kCnt P i + 1 = kCnt P (i + 1) := by simp [kCnt, h]
theorem kCnt_f {P : Nat → Bool} {i : Nat} (h : P i = false) : kCnt P i = kCnt P (i + 1) := by simp [kCnt, h]
theorem kCnt_congr {P Q : Nat → Bool} {n : Nat} (h : ∀ i, i < n → P i = Q i) : kCnt P n = kCnt Q n := by
  induction n with
  | zero => rfl
  | succ n ih => simp only [kCnt]; rw [ih (fun i hi => h i (by omega)), h n (by omega)]
/-- all places under i become v -/
def kSet (v : Int32) (i : Nat) (f : FR) : FR := fun r => if r < i then v else f r
theorem kSet_0 (v : Int32) (f : FR) : kSet v 0 f = f := by funext r; simp [kSet]
theorem kSet_s (v : Int32) (i : Nat) (f : FR) : upd (kSet v i f) i v = kSet v (i + 1) f := by
  funext r
  simp only [upd, kSet]
  by_cases hr : r = i
  · subst hr; simp
  · have : (r < i + 1) = (r < i) := by apply propext; omega
    simp only [if_neg hr, this]
/-- places under i tell whether L holds something there (other than v) -/
def kMrk (v : Int32) (L : FR) (i : Nat) (f : FR) : FR := fun r => if r < i then (if L r = v then 0 else 1) else f r
theorem kMrk_0 (v : Int32) (L f : FR) : kMrk v L 0 f = f := by funext r; simp [kMrk]
theorem kMrk_s (v : Int32) (L : FR) (i : Nat) (f : FR) {x : Int32} (h : x = if L i = v then 0 else 1) : upd (kMrk v L i f) i x = kMrk v L (i + 1) f := by
  funext r
  simp only [upd, kMrk]
  by_cases hr : r = i
  · subst hr; simp [h]
  · have : (r < i + 1) = (r < i) := by apply propext; omega
    simp only [if_neg hr, this]
def nz (f : FR) : Nat → Bool := fun r => decide (f r ≠ 0)
theorem nz_t {f : FR} {r : Nat} (h : ¬ f r = 0) : nz f r = true := by simp [nz, h]
theorem nz_f {f : FR} {r : Nat} (h : f r = 0) : nz f r = false := by simp [nz, h]
def tt9 : Nat → Bool := fun _ => true
/-- two marks in one number -/
def mkI (h : FR) : Int32 := (if h 0 = 0 then 0 else 1) ||| (if h 1 = 0 then 0 else 2)
/-- a peer's four cells -/
def pW (cI cZ : ClassId) (po pf pl pz : Nat) (g : Int32) (F L Z : FR) (st rt sl mk : Int32) : va_W := [(po, .inr (0, [.int g, .ref pf, .ref pl, .ref pz, .int st, .int rt, .int sl, .int mk])), (pf, .inl (cI, 16, .inl F)), (pl, .inl (cI, 16, .inl L)), (pz, .inl (cZ, 16, .inl Z))]
/-- the reference's eleven cells -/
def mW (cI cZ : ClassId) (md : Nat → Nat) (S : ST) : va_W := [(md 0, .inr (2, [.int (g_T1 S), .int (g_T2 S), .int (g_T3 S), .int (nI (g_N S)), .ref (md 1), .ref (md 2), .ref (md 3), .ref (md 4), .ref (md 5), .ref (md 6), .ref (md 7), .ref (md 8), .ref (md 9), .ref (md 10), .int (g_Df S), .int (g_Dl S)])),
  (md 1, .inl (cZ, 5, .inl (g_Gr S))), (md 2, .inl (cI, 5, .inl (g_St S))), (md 3, .inl (cI, 5, .inl (g_Rt S))), (md 4, .inl (cI, 5, .inl (g_Sl S))), (md 5, .inl (cZ, 10, .inl (fl 2 (g_Hm S)))), (md 6, .inl (cI, 80, .inl (fl 16 (g_Of S)))), (md 7, .inl (cI, 80, .inl (fl 16 (g_Le S)))), (md 8, .inl (cZ, 80, .inl (fl 16 (g_Ss S)))), (md 9, .inl (cI, 16, .inl (g_Ho S))), (md 10, .inl (cZ, 16, .inl (g_Hz S)))]
/-- the class's cells: its own four, and four for each peer -/
def xB (cI cZ : ClassId) (pd : Nat → Nat → Nat) (S : ST) (k : Nat) : va_W := pW cI cZ (pd k 0) (pd k 1) (pd k 2) (pd k 3) (g_Gr S k) (g_Of S k) (g_Le S k) (g_Ss S k) (g_St S k) (g_Rt S k) (g_Sl S k) (mkI (g_Hm S k))
def xR (pd : Nat → Nat → Nat) (n : Nat) : Nat → Option Nat := fun k => if k < n then some (pd k 0) else none
def xW (cI cZ cP : ClassId) (ad : Nat → Nat) (pd : Nat → Nat → Nat) (S : ST) : va_W := [(ad 0, .inr (1, [.ref (ad 1), .ref (ad 2), .ref (ad 3), .int (nI (g_N S)), .int (g_T1 S), .int (g_T2 S), .int (g_T3 S), .int (g_Df S), .int (g_Dl S)])), (ad 1, .inl (cP, 5, .inr (.inr (.inr (.inr (xR pd (g_N S))))))), (ad 2, .inl (cI, 16, .inl (g_Ho S))), (ad 3, .inl (cZ, 16, .inl (g_Hs S)))] ++ (List.range (g_N S)).flatMap (xB cI cZ pd S)
theorem fm_len {B : Nat → va_W} (h4 : ∀ k, (B k).length = 4) (n : Nat) : ((List.range n).flatMap B).length = 4 * n := by
  induction n with
  | zero => rfl
  | succ n ih => rw [List.range_succ, List.flatMap_append, List.length_append, ih]; simp [h4]; omega
theorem fm_get {B : Nat → va_W} (h4 : ∀ k, (B k).length = 4) {n k j : Nat} (hk : k < n) (hj : j < 4) : ((List.range n).flatMap B)[4 * k + j]? = (B k)[j]? := by
  induction n with
  | zero => omega
  | succ n ih =>
    rw [List.range_succ, List.flatMap_append]
    by_cases h : k < n
    · rw [List.getElem?_append_left (by rw [fm_len h4]; omega)]
      exact ih h
    · have : k = n := by omega
      subst this
      rw [List.getElem?_append_right (by rw [fm_len h4]; omega), fm_len h4, Nat.add_sub_cancel_left]
      simp
theorem fm_at {B : Nat → va_W} (h4 : ∀ k, (B k).length = 4) {n i : Nat} {q : Nat × va_E} (h : ((List.range n).flatMap B)[i]? = some q) : ∃ k j, k < n ∧ j < 4 ∧ i = 4 * k + j ∧ (B k)[j]? = some q := by
  have hl := (List.getElem?_eq_some_iff.mp h).1
  rw [fm_len h4] at hl
  have e : i = 4 * (i / 4) + i % 4 := (Nat.div_add_mod i 4).symm
  refine ⟨i / 4, i % 4, by omega, by omega, e, ?_⟩
  rw [← fm_get h4 (n := n) (k := i / 4) (j := i % 4) (by omega) (by omega), ← e]
  exact h
theorem xB4 (cI cZ : ClassId) (pd : Nat → Nat → Nat) (S : ST) : ∀ k, (xB cI cZ pd S k).length = 4 := fun _ => rfl
theorem xW_get {cI cZ cP : ClassId} {ad : Nat → Nat} {pd : Nat → Nat → Nat} {S : ST} {k : Nat} (hk : k < g_N S) (j : Nat) (hj : j < 4) {q : Nat × va_E} (h : (xB cI cZ pd S k)[j]? = some q) : (xW cI cZ cP ad pd S)[4 + (4 * k + j)]? = some q := by
  unfold xW
  rw [List.getElem?_append_right (by simp)]
  show ((List.range (g_N S)).flatMap (xB cI cZ pd S))[4 + (4 * k + j) - 4]? = some q
  rw [Nat.add_sub_cancel_left, fm_get (xB4 cI cZ pd S) hk hj]
  exact h
theorem xW_adr {cI cZ cP : ClassId} {ad : Nat → Nat} {pd : Nat → Nat → Nat} {S S1 : ST} (h : g_N S1 = g_N S) : (xW cI cZ cP ad pd S1).map (·.1) = (xW cI cZ cP ad pd S).map (·.1) := by
  unfold xW
  rw [List.map_append, List.map_append, h]
  refine congr (congrArg _ rfl) ?_
  rw [List.map_flatMap, List.map_flatMap]
  rfl
/-- a state that differs at one peer alone -/
def xOne (cI cZ : ClassId) (pd : Nat → Nat → Nat) (S S1 : ST) (k : Nat) : Prop := g_N S1 = g_N S ∧ g_T1 S1 = g_T1 S ∧ g_T2 S1 = g_T2 S ∧ g_T3 S1 = g_T3 S ∧ g_Df S1 = g_Df S ∧ g_Dl S1 = g_Dl S ∧ g_Ho S1 = g_Ho S ∧ g_Hs S1 = g_Hs S ∧ ∀ i, i ≠ k → xB cI cZ pd S1 i = xB cI cZ pd S i
theorem xW_new {cI cZ cP : ClassId} {ad : Nat → Nat} {pd : Nat → Nat → Nat} {S S1 : ST} {k : Nat} (h : xOne cI cZ pd S S1 k) (i : Nat) (q : Nat × va_E) (hq : (xW cI cZ cP ad pd S1)[i]? = some q) : (∃ j : Nat, (xB cI cZ pd S1 k)[j]? = some q) ∨ ((xW cI cZ cP ad pd S)[i]? = some q ∧ ∀ j : Nat, j < (xB cI cZ pd S k).length → i ≠ 4 + (4 * k + j)) := by
  obtain ⟨h0, h1, h2, h3, h4, h5, h6, h7, h8⟩ := h
  have e0 : (xW cI cZ cP ad pd S1) = [(ad 0, .inr (1, [.ref (ad 1), .ref (ad 2), .ref (ad 3), .int (nI (g_N S)), .int (g_T1 S), .int (g_T2 S), .int (g_T3 S), .int (g_Df S), .int (g_Dl S)])), (ad 1, .inl (cP, 5, .inr (.inr (.inr (.inr (xR pd (g_N S))))))), (ad 2, .inl (cI, 16, .inl (g_Ho S))), (ad 3, .inl (cZ, 16, .inl (g_Hs S)))] ++ (List.range (g_N S)).flatMap (xB cI cZ pd S1) := by
    unfold xW
    rw [h0, h1, h2, h3, h4, h5, h6, h7]
  rw [e0] at hq
  by_cases hi : i < 4
  · right
    unfold xW
    rw [List.getElem?_append_left (by simpa using hi)] at hq ⊢
    exact ⟨hq, fun j _ => by omega⟩
  · rw [List.getElem?_append_right (by simpa using hi)] at hq
    obtain ⟨k2, j2, a1, a2, a3, a4⟩ := fm_at (xB4 cI cZ pd S1) hq
    have a3 : i - 4 = 4 * k2 + j2 := a3
    by_cases hk : k2 = k
    · subst hk
      exact Or.inl ⟨j2, a4⟩
    · right
      rw [h8 k2 hk] at a4
      refine ⟨?_, fun j hj => ?_⟩
      · rw [show i = 4 + (4 * k2 + j2) by omega]
        exact xW_get a1 j2 a2 a4
      · have hj : j < 4 := hj
        omega
/-- one cell of one peer is written -/
theorem xW_set {cI cZ cP : ClassId} {ad : Nat → Nat} {pd : Nat → Nat → Nat} {S S1 : ST} {k j : Nat} {q : Nat × va_E} (hk : k < g_N S) (hj : j < 4) (h : xOne cI cZ pd S S1 k) (hB : (xB cI cZ pd S k).set j q = xB cI cZ pd S1 k) : (xW cI cZ cP ad pd S).set (4 + (4 * k + j)) q = xW cI cZ cP ad pd S1 := by
  have hlen : ∀ T : ST, (xW cI cZ cP ad pd T).length = 4 + 4 * g_N T := fun T => by
    unfold xW; rw [List.length_append, fm_len (xB4 cI cZ pd T)]; rfl
  have h0 := h.1
  apply List.ext_getElem?
  intro i
  by_cases hi : i = 4 + (4 * k + j)
  · subst hi
    rw [List.getElem?_set_self (by rw [hlen]; omega)]
    symm
    refine xW_get (by rw [h0]; exact hk) j hj ?_
    rw [← hB]
    exact List.getElem?_set_self (by rw [xB4]; exact hj)
  · rw [List.getElem?_set_ne (fun z => hi z.symm)]
    cases hc : (xW cI cZ cP ad pd S1)[i]? with
    | none =>
      have := List.getElem?_eq_none_iff.mp hc
      rw [hlen, h0] at this
      exact List.getElem?_eq_none_iff.mpr (by rw [hlen]; exact this)
    | some q1 =>
      by_cases h4 : ∃ j2, j2 < 4 ∧ i = 4 + (4 * k + j2)
      · obtain ⟨j2, b1, b2⟩ := h4
        subst b2
        have hne : j ≠ j2 := fun z => hi (by rw [z])
        have e1 : (xB cI cZ pd S1 k)[j2]? = (xB cI cZ pd S k)[j2]? := by rw [← hB]; exact List.getElem?_set_ne hne
        cases he : (xB cI cZ pd S k)[j2]? with
        | none =>
          have := List.getElem?_eq_none_iff.mp he
          rw [xB4] at this
          omega
        | some q2 =>
          rw [he] at e1
          have f1 := xW_get (cP := cP) (ad := ad) (S := S1) (by rw [h0]; exact hk) j2 b1 e1
          rw [f1] at hc
          rw [← hc]
          exact xW_get hk j2 b1 he
      · have hx : ∀ x, (xW cI cZ cP ad pd S1)[i]? = some x → (xW cI cZ cP ad pd S)[i]? = some x := by
          intro x hx
          by_cases hi4 : i < 4
          · rcases xW_new h i x hx with ⟨j3, c1⟩ | ⟨c1, -⟩
            · obtain ⟨u0, u1, u2, u3, u4, u5, u6, u7, -⟩ := h
              unfold xW at hx ⊢
              rw [u0, u1, u2, u3, u4, u5, u6, u7, List.getElem?_append_left (by simpa using hi4)] at hx
              rw [List.getElem?_append_left (by simpa using hi4)]
              exact hx
            · exact c1
          · have hx' := hx
            unfold xW at hx'
            rw [List.getElem?_append_right (by simpa using hi4)] at hx'
            obtain ⟨k2, j2, a1, a2, a3, a4⟩ := fm_at (xB4 cI cZ pd S1) hx'
            have a3 : i - 4 = 4 * k2 + j2 := a3
            have hk2 : k2 ≠ k := fun z => h4 ⟨j2, a2, by subst z; omega⟩
            rw [h.2.2.2.2.2.2.2.2 k2 hk2] at a4
            rw [show i = 4 + (4 * k2 + j2) by omega]
            exact xW_get (by rw [← h0]; exact a1) j2 a2 a4
        exact hx q1 hc
end
section
/-! what the methods do to the state, as functions -/
def o_RmS (S : ST) (p : Nat) : ST := s_Ss (s_Le S (va_up (g_Le S) p (kCut (nz (g_Ss S p)) 16 (g_Le S p)))) (va_up (g_Ss S) p (kCut (nz (g_Ss S p)) 16 (g_Ss S p)))
def o_RmL (S : ST) (p : Nat) : ST := s_Ss (s_Le S (va_up (g_Le S) p (kCut tt9 16 (g_Le S p)))) (va_up (g_Ss S) p (kCut tt9 16 (g_Ss S p)))
def o_Down (S : ST) (p : Nat) : ST := o_RmL (s_Sl (s_Rt (s_St S (upd (g_St S) p 2)) (upd (g_Rt S) p 0)) (upd (g_Sl S) p 0)) p
def o_Mark (S : ST) (p : Nat) : ST := s_Ss S (va_up (g_Ss S) p (kMrk 0 (g_Le S p) 16 (g_Ss S p)))
def o_Lose (S : ST) (p : Nat) : ST := if g_Gr S p = 0 then o_Down S p else s_Rt (s_Sl (o_Mark (o_RmS (s_St S (upd (g_St S) p 1)) p) p) (upd (g_Sl S) p 0)) (upd (g_Rt S) p (g_T1 S))
def o_Meet (S : ST) (p : Nat) : ST := if g_St S p = 1 then s_St (s_Sl (s_Rt S (upd (g_Rt S) p 0)) (upd (g_Sl S) p (g_T2 S))) (upd (g_St S) p 0) else s_St S (upd (g_St S) p 0)
def o_ERes (S : ST) (p : Nat) : ST := s_Sl (o_RmS S p) (upd (g_Sl S) p 0)
/-- one tick of a peer's restart timer, then of its stale timer -/
def o_CDa (S : ST) (p : Nat) : Int32 × ST := if 0 < g_Rt S p then (if g_Rt S p - 1 = 0 then (kCnt (nz (g_Le S p)) 16, o_Down S p) else (0, s_Rt S (upd (g_Rt S) p (g_Rt S p - 1)))) else (0, S)
def o_CDb (S : ST) (p : Nat) : Int32 × ST := if 0 < g_Sl S p then (if g_Sl S p - 1 = 0 then (kCnt (nz (g_Ss S p)) 16, o_RmS (s_Sl S (upd (g_Sl S) p (g_Sl S p - 1))) p) else (0, s_Sl S (upd (g_Sl S) p (g_Sl S p - 1)))) else (0, S)
def o_CD (S : ST) (p : Nat) : Int32 × ST := ((o_CDa S p).1 + (o_CDb (o_CDa S p).2 p).1, (o_CDb (o_CDa S p).2 p).2)
/-- awaited peers -/
def aw (S : ST) (p : Nat) : Prop := ¬ g_Gr S p = 0 ∧ ¬ g_St S p = 2 ∧ (g_Hm S p 0 = 0 ∨ g_Hm S p 1 = 0)
theorem aw_dec (S : ST) (p : Nat) : aw S p ∨ ¬ aw S p := Classical.em _
noncomputable def o_Wt (S : ST) : Nat → Int32
  | 0 => 0
  | i + 1 => @ite _ (aw S i) (Classical.propDecidable _) (o_Wt S i ||| (1 <<< (nI i &&& 31))) (o_Wt S i)
/-- the best offer among the first i peers -/
def b_len (S : ST) (r p : Nat) : Int32 := if g_St S p = 0 then g_Of S p r else 0
def b_at (S : ST) (r : Nat) : Nat → Int32 × Int32
  | 0 => (-6, 0)
  | i + 1 => if 0 < b_len S r i ∧ ((b_at S r i).1 = -6 ∨ b_len S r i < (b_at S r i).2) then (nI i, b_len S r i) else b_at S r i
/-- the router tells one peer, the first i peers -/
def a_1 (S : ST) (r : Nat) (hop len : Int32) (p : Nat) : ST := if g_St S p = 0 then (if hop = -6 ∨ hop = nI p then (if g_Ss S p r = 0 then s_Le S (va_up (g_Le S) p (upd (g_Le S p) r 0)) else S) else s_Ss (s_Le S (va_up (g_Le S) p (upd (g_Le S p) r len))) (va_up (g_Ss S) p (upd (g_Ss S p) r 0))) else S
def a_i (S : ST) (r : Nat) (hop len : Int32) : Nat → ST
  | 0 => S
  | i + 1 => a_1 (a_i S r hop len i) r hop len i
def o_Ent (S : ST) (r : Nat) (hop : Int32) : ST := s_Hz (s_Hs (s_Ho S (upd (g_Ho S) r hop)) (upd (g_Hs S) r 0)) (upd (g_Hz S) r 0)
def o_Sel (S : ST) (r : Nat) : ST := a_i (o_Ent S r (b_at S r (g_N S)).1) r (b_at S r (g_N S)).1 ((b_at S r (g_N S)).2 + 1) (g_N S)
def o_SA (S : ST) : Nat → ST
  | 0 => S
  | i + 1 => o_Sel (o_SA S i) i
/-- the end of deferral -/
def o_ER (S : ST) : Nat → ST
  | 0 => S
  | i + 1 => if g_St (o_ER S i) i = 0 then o_ERes (o_ER S i) i else o_ER S i
def o_End (S : ST) : ST := o_ER (o_SA (s_Dl (s_Df S 0) 0) 16) (g_N S)
noncomputable def o_Chk (S : ST) : ST := if g_Df S = 0 then S else if g_Dl S = 0 ∨ o_Wt S (g_N S) = 0 then o_End S else S
/-- ticks -/
def o_CDs (S : ST) : Nat → Int32 × ST
  | 0 => (0, S)
  | i + 1 => ((o_CDs S i).1 + (o_CD (o_CDs S i).2 i).1, (o_CD (o_CDs S i).2 i).2)
def o_Dl1 (S : ST) : ST := if 0 < g_Dl S then s_Dl S (g_Dl S - 1) else S
noncomputable def o_Tk1 (S : ST) : Int32 × ST := ((o_CDs S (g_N S)).1, o_Chk (o_Dl1 (o_CDs S (g_N S)).2))
noncomputable def o_Tk (S : ST) : Nat → Int32 × ST
  | 0 => (0, S)
  | j + 1 => ((o_Tk S j).1 + (o_Tk1 (o_Tk S j).2).1, (o_Tk1 (o_Tk S j).2).2)
/-- restart -/
def o_Hm0 (S : ST) (p : Nat) : ST := s_Hm S (va_up (g_Hm S) p (upd (upd (g_Hm S p) 0 0) 1 0))
def o_Rs (S : ST) : Nat → Int32 × ST
  | 0 => (0, S)
  | i + 1 => if g_St (o_Rs S i).2 i = 0 then ((o_Rs S i).1 + 1, o_Lose (o_Hm0 (o_Rs S i).2 i) i) else ((o_Rs S i).1, o_Hm0 (o_Rs S i).2 i)
def o_FT (S : ST) (pv : Int32) : ST := if pv = 0 then s_Hz (s_Ho S (kSet (-6) 16 (g_Ho S))) (kMrk (-6) (kSet (-6) 16 (g_Ho S)) 16 (g_Hz S)) else s_Hz (s_Hs S (kSet 1 16 (g_Hs S))) (kMrk (-6) (g_Ho S) 16 (g_Hz S))
noncomputable def o_Rst (S : ST) (pv : Int32) : Int32 × ST := ((o_Rs S (g_N S)).1, o_Chk (s_Dl (s_Df (o_FT (o_Rs S (g_N S)).2 pv) 1) (g_T3 S)))
/-- packets -/
def o_Fw (S : ST) (p r : Nat) : Int32 := if g_Le S p r = 0 then -6 else if g_Ho S r = -6 then -7 else if g_Ho S r = nI p then -8 else g_Ho S r
def p_Fw (S : ST) (p : Nat) : Nat → Bool := fun r => decide (0 ≤ o_Fw S p r)
def p_Lp (S : ST) (p : Nat) : Nat → Bool := fun r => decide (o_Fw S p r = -8)
def o_Lp (S : ST) : Nat → Int32
  | 0 => 0
  | i + 1 => o_Lp S i + kCnt (p_Lp S i) 16
def p_Of (S : ST) (p : Nat) : Nat → Bool := fun r => decide (0 < g_Of S p r)
def pz (f : FR) : Nat → Bool := fun r => decide (0 < f r)
theorem pz_t {f : FR} {r : Nat} (h : 0 < f r) : pz f r = true := by simp [pz, h]
theorem pz_f {f : FR} {r : Nat} (h : ¬ 0 < f r) : pz f r = false := by simp [pz, h]
/-- a question's arguments -/
abbrev okP (n : Nat) (x : Int32) : Prop := 0 ≤ x ∧ x < nI n
abbrev okR (t f : Int32) : Prop := (0 ≤ t ∧ t < 2) ∧ 0 ≤ f ∧ f < 8
theorem nI_16 : (16 : Int32) = nI 16 := rfl
theorem nI_8 : (8 : Int32) = nI 8 := rfl
theorem nI_2 : (2 : Int32) = nI 2 := rfl
theorem nI_5 : (5 : Int32) = nI 5 := rfl
theorem nI_one : (1 : Int32) = nI 1 := rfl
theorem nI_zero : (0 : Int32) = nI 0 := rfl
theorem nx16 (a : Nat) : (16 : Int32) * nI a = nI (16 * a) := pk_mul 16 a
theorem nx8 (a : Nat) : (8 : Int32) * nI a = nI (8 * a) := pk_mul 8 a
theorem nx2 (a : Nat) : (2 : Int32) * nI a = nI (2 * a) := pk_mul 2 a
theorem nx8r (a : Nat) : nI a * (8 : Int32) = nI (8 * a) := by rw [nI_8, pk_mul, Nat.mul_comm]
theorem nx16r (a : Nat) : nI a * (16 : Int32) = nI (16 * a) := by rw [nI_16, pk_mul, Nat.mul_comm]
end
section
/-! fields, with the world behind named -/
section KX
variable {p : Program} {l : Launch} {e : Env} {R : Room} {s : State} {m : MethodId} {args : Array Value} {below : List Frame} {meth : Method} {c : Code} {H : Heap} {locs : List Loc} {cells slots : Nat} {Q : State → Prop}
variable {cc : ByteArray} {pc : Nat} {ls : Array Slot} {rest : List Value} {D : va_G} {cl : List vw_C} {A : Nat → Prop} {a : Nat} {tys : List (ClassId × FieldType)} {ws : va_W} {H0 : Heap}
theorem k_put (hexec : p.tables.exec = Jvm.exec) (hb : c.code = cc) {own ref C : String} {T : u_T} {N ci index : Nat} {Ts : List Cond} (hts : ∀ w ∈ Ts, w.before args s = true) (hin : ∀ w ∈ u_ws C T N, w ∈ Ts) (ty0 : Nat → FieldType) (hty : ∀ k, k < N → parseFieldDescriptor (T k).2.2.1 = some (ty0 k)) (hnm : ∀ a, a < N → ∀ b, b < N → a ≠ b → (T a).2.1 ≠ (T b).2.1) (hown : s.vm.findClass own = some m.cls) (hK : va_K D cl tys s) (hP : va_P D cl ws H) (hD : va_D A ws) (hS0 : va_S A H0 H locs) (q0 : Nat) {fs : List Value} (he : ws[q0]? = some (a, .inr (ci, fs))) (hc : cl[ci]? = some (C, T, N)) (k : Nat) (hk : k < N) (hlink : (Cond.fieldLink own index ref (T k).2.1 (T k).2.2.1).before args s = true) (hsame : ∀ x, s.fieldFound? (T k).1 (T k).2.1 (T k).2.2.1 = some x → s.fieldFound? ref (T k).2.1 (T k).2.2.1 = some x) (hfin : (T k).2.2.2 = false) {ty : FieldType} {v : Value} (hd : parseFieldDescriptor (T k).2.2.1 = some ty) (hn : narrow ty v = v) (hfit : fits ty v = true) (hl : k < fs.length)
    {W1 : va_W} (hW : ws.set q0 (a, .inr (ci, fs.set k v)) = W1) (hdg : decode cc pc = .ok (.putfield index, 3)) (kk : ∀ (H1 : Heap) (locs1 : List Loc), va_P D cl W1 H1 → va_D A W1 → va_S A H0 H1 locs1 → W p l e R s m args below meth c H1 locs1 cells slots Q (F0 m (pc + 3) ls rest)) : W p l e R s m args below meth c H locs cells slots Q (F0 m pc ls (v :: .ref a :: rest)) := by
  subst hW
  exact va_put hexec hb hts hin ty0 hty hnm hown hK hP hD hS0 q0 he hc k hk hlink hsame hfin hd hn hfit hl hdg kk
theorem k_putN (hexec : p.tables.exec = Jvm.exec) (hb : c.code = cc) {own ref C host : String} {T : u_T} {N ci index : Nat} {Ts : List Cond} (hts : ∀ w ∈ Ts, w.before args s = true) (hin : ∀ w ∈ u_ws C T N, w ∈ Ts) (ty0 : Nat → FieldType) (hty : ∀ k, k < N → parseFieldDescriptor (T k).2.2.1 = some (ty0 k)) (hnm : ∀ a, a < N → ∀ b, b < N → a ≠ b → (T a).2.1 ≠ (T b).2.1) (hown : s.vm.findClass own = some m.cls) (hK : va_K D cl tys s) (hP : va_P D cl ws H) (hD : va_D A ws) (hS0 : va_S A H0 H locs) (q0 : Nat) {fs : List Value} (he : ws[q0]? = some (a, .inr (ci, fs))) (hc : cl[ci]? = some (C, T, N)) (k : Nat) (hk : k < N) (hlink : (Cond.fieldLinkNest own index ref (T k).2.1 (T k).2.2.1 host).before args s = true) (hsame : ∀ x, s.fieldFound? (T k).1 (T k).2.1 (T k).2.2.1 = some x → s.fieldFound? ref (T k).2.1 (T k).2.2.1 = some x) (hfin : (T k).2.2.2 = false) {ty : FieldType} {v : Value} (hd : parseFieldDescriptor (T k).2.2.1 = some ty) (hn : narrow ty v = v) (hfit : fits ty v = true) (hl : k < fs.length)
    {W1 : va_W} (hW : ws.set q0 (a, .inr (ci, fs.set k v)) = W1) (hdg : decode cc pc = .ok (.putfield index, 3)) (kk : ∀ (H1 : Heap) (locs1 : List Loc), va_P D cl W1 H1 → va_D A W1 → va_S A H0 H1 locs1 → W p l e R s m args below meth c H1 locs1 cells slots Q (F0 m (pc + 3) ls rest)) : W p l e R s m args below meth c H locs cells slots Q (F0 m pc ls (v :: .ref a :: rest)) := by
  subst hW
  exact va_putN hexec hb hts hin ty0 hty hnm hown hK hP hD hS0 q0 he hc k hk hlink hsame hfin hd hn hfit hl hdg kk
end KX
end
section
/-! what each step leaves as it was -/
theorem o_RmS_T1 (S : ST) (p : Nat) : g_T1 (o_RmS S p) = g_T1 S := rfl
theorem o_RmS_T2 (S : ST) (p : Nat) : g_T2 (o_RmS S p) = g_T2 S := rfl
theorem o_RmS_T3 (S : ST) (p : Nat) : g_T3 (o_RmS S p) = g_T3 S := rfl
theorem o_RmS_N (S : ST) (p : Nat) : g_N (o_RmS S p) = g_N S := rfl
theorem o_RmS_Gr (S : ST) (p : Nat) : g_Gr (o_RmS S p) = g_Gr S := rfl
theorem o_RmS_St (S : ST) (p : Nat) : g_St (o_RmS S p) = g_St S := rfl
theorem o_RmS_Rt (S : ST) (p : Nat) : g_Rt (o_RmS S p) = g_Rt S := rfl
theorem o_RmS_Sl (S : ST) (p : Nat) : g_Sl (o_RmS S p) = g_Sl S := rfl
theorem o_RmS_Hm (S : ST) (p : Nat) : g_Hm (o_RmS S p) = g_Hm S := rfl
theorem o_RmS_Of (S : ST) (p : Nat) : g_Of (o_RmS S p) = g_Of S := rfl
theorem o_RmS_Ho (S : ST) (p : Nat) : g_Ho (o_RmS S p) = g_Ho S := rfl
theorem o_RmS_Hs (S : ST) (p : Nat) : g_Hs (o_RmS S p) = g_Hs S := rfl
theorem o_RmS_Hz (S : ST) (p : Nat) : g_Hz (o_RmS S p) = g_Hz S := rfl
theorem o_RmS_Df (S : ST) (p : Nat) : g_Df (o_RmS S p) = g_Df S := rfl
theorem o_RmS_Dl (S : ST) (p : Nat) : g_Dl (o_RmS S p) = g_Dl S := rfl
theorem o_RmL_T1 (S : ST) (p : Nat) : g_T1 (o_RmL S p) = g_T1 S := rfl
theorem o_RmL_T2 (S : ST) (p : Nat) : g_T2 (o_RmL S p) = g_T2 S := rfl
theorem o_RmL_T3 (S : ST) (p : Nat) : g_T3 (o_RmL S p) = g_T3 S := rfl
theorem o_RmL_N (S : ST) (p : Nat) : g_N (o_RmL S p) = g_N S := rfl
theorem o_RmL_Gr (S : ST) (p : Nat) : g_Gr (o_RmL S p) = g_Gr S := rfl
theorem o_RmL_St (S : ST) (p : Nat) : g_St (o_RmL S p) = g_St S := rfl
theorem o_RmL_Rt (S : ST) (p : Nat) : g_Rt (o_RmL S p) = g_Rt S := rfl
theorem o_RmL_Sl (S : ST) (p : Nat) : g_Sl (o_RmL S p) = g_Sl S := rfl
theorem o_RmL_Hm (S : ST) (p : Nat) : g_Hm (o_RmL S p) = g_Hm S := rfl
theorem o_RmL_Of (S : ST) (p : Nat) : g_Of (o_RmL S p) = g_Of S := rfl
theorem o_RmL_Ho (S : ST) (p : Nat) : g_Ho (o_RmL S p) = g_Ho S := rfl
theorem o_RmL_Hs (S : ST) (p : Nat) : g_Hs (o_RmL S p) = g_Hs S := rfl
theorem o_RmL_Hz (S : ST) (p : Nat) : g_Hz (o_RmL S p) = g_Hz S := rfl
theorem o_RmL_Df (S : ST) (p : Nat) : g_Df (o_RmL S p) = g_Df S := rfl
theorem o_RmL_Dl (S : ST) (p : Nat) : g_Dl (o_RmL S p) = g_Dl S := rfl
theorem o_Down_T1 (S : ST) (p : Nat) : g_T1 (o_Down S p) = g_T1 S := rfl
theorem o_Down_T2 (S : ST) (p : Nat) : g_T2 (o_Down S p) = g_T2 S := rfl
theorem o_Down_T3 (S : ST) (p : Nat) : g_T3 (o_Down S p) = g_T3 S := rfl
theorem o_Down_N (S : ST) (p : Nat) : g_N (o_Down S p) = g_N S := rfl
theorem o_Down_Gr (S : ST) (p : Nat) : g_Gr (o_Down S p) = g_Gr S := rfl
theorem o_Down_Hm (S : ST) (p : Nat) : g_Hm (o_Down S p) = g_Hm S := rfl
theorem o_Down_Of (S : ST) (p : Nat) : g_Of (o_Down S p) = g_Of S := rfl
theorem o_Down_Ho (S : ST) (p : Nat) : g_Ho (o_Down S p) = g_Ho S := rfl
theorem o_Down_Hs (S : ST) (p : Nat) : g_Hs (o_Down S p) = g_Hs S := rfl
theorem o_Down_Hz (S : ST) (p : Nat) : g_Hz (o_Down S p) = g_Hz S := rfl
theorem o_Down_Df (S : ST) (p : Nat) : g_Df (o_Down S p) = g_Df S := rfl
theorem o_Down_Dl (S : ST) (p : Nat) : g_Dl (o_Down S p) = g_Dl S := rfl
theorem o_Lose_T1 (S : ST) (p : Nat) : g_T1 (o_Lose S p) = g_T1 S := by
  unfold o_Lose
  repeat' split
  all_goals rfl
theorem o_Lose_T2 (S : ST) (p : Nat) : g_T2 (o_Lose S p) = g_T2 S := by
  unfold o_Lose
  repeat' split
  all_goals rfl
theorem o_Lose_T3 (S : ST) (p : Nat) : g_T3 (o_Lose S p) = g_T3 S := by
  unfold o_Lose
  repeat' split
  all_goals rfl
theorem o_Lose_N (S : ST) (p : Nat) : g_N (o_Lose S p) = g_N S := by
  unfold o_Lose
  repeat' split
  all_goals rfl
theorem o_Lose_Gr (S : ST) (p : Nat) : g_Gr (o_Lose S p) = g_Gr S := by
  unfold o_Lose
  repeat' split
  all_goals rfl
theorem o_Lose_Hm (S : ST) (p : Nat) : g_Hm (o_Lose S p) = g_Hm S := by
  unfold o_Lose
  repeat' split
  all_goals rfl
theorem o_Lose_Of (S : ST) (p : Nat) : g_Of (o_Lose S p) = g_Of S := by
  unfold o_Lose
  repeat' split
  all_goals rfl
theorem o_Lose_Ho (S : ST) (p : Nat) : g_Ho (o_Lose S p) = g_Ho S := by
  unfold o_Lose
  repeat' split
  all_goals rfl
theorem o_Lose_Hs (S : ST) (p : Nat) : g_Hs (o_Lose S p) = g_Hs S := by
  unfold o_Lose
  repeat' split
  all_goals rfl
theorem o_Lose_Hz (S : ST) (p : Nat) : g_Hz (o_Lose S p) = g_Hz S := by
  unfold o_Lose
  repeat' split
  all_goals rfl
theorem o_Lose_Df (S : ST) (p : Nat) : g_Df (o_Lose S p) = g_Df S := by
  unfold o_Lose
  repeat' split
  all_goals rfl
theorem o_Lose_Dl (S : ST) (p : Nat) : g_Dl (o_Lose S p) = g_Dl S := by
  unfold o_Lose
  repeat' split
  all_goals rfl
theorem o_Meet_T1 (S : ST) (p : Nat) : g_T1 (o_Meet S p) = g_T1 S := by
  unfold o_Meet
  repeat' split
  all_goals rfl
theorem o_Meet_T2 (S : ST) (p : Nat) : g_T2 (o_Meet S p) = g_T2 S := by
  unfold o_Meet
  repeat' split
  all_goals rfl
theorem o_Meet_T3 (S : ST) (p : Nat) : g_T3 (o_Meet S p) = g_T3 S := by
  unfold o_Meet
  repeat' split
  all_goals rfl
theorem o_Meet_N (S : ST) (p : Nat) : g_N (o_Meet S p) = g_N S := by
  unfold o_Meet
  repeat' split
  all_goals rfl
theorem o_Meet_Gr (S : ST) (p : Nat) : g_Gr (o_Meet S p) = g_Gr S := by
  unfold o_Meet
  repeat' split
  all_goals rfl
theorem o_Meet_Hm (S : ST) (p : Nat) : g_Hm (o_Meet S p) = g_Hm S := by
  unfold o_Meet
  repeat' split
  all_goals rfl
theorem o_Meet_Of (S : ST) (p : Nat) : g_Of (o_Meet S p) = g_Of S := by
  unfold o_Meet
  repeat' split
  all_goals rfl
theorem o_Meet_Le (S : ST) (p : Nat) : g_Le (o_Meet S p) = g_Le S := by
  unfold o_Meet
  repeat' split
  all_goals rfl
theorem o_Meet_Ss (S : ST) (p : Nat) : g_Ss (o_Meet S p) = g_Ss S := by
  unfold o_Meet
  repeat' split
  all_goals rfl
theorem o_Meet_Ho (S : ST) (p : Nat) : g_Ho (o_Meet S p) = g_Ho S := by
  unfold o_Meet
  repeat' split
  all_goals rfl
theorem o_Meet_Hs (S : ST) (p : Nat) : g_Hs (o_Meet S p) = g_Hs S := by
  unfold o_Meet
  repeat' split
  all_goals rfl
theorem o_Meet_Hz (S : ST) (p : Nat) : g_Hz (o_Meet S p) = g_Hz S := by
  unfold o_Meet
  repeat' split
  all_goals rfl
theorem o_Meet_Df (S : ST) (p : Nat) : g_Df (o_Meet S p) = g_Df S := by
  unfold o_Meet
  repeat' split
  all_goals rfl
theorem o_Meet_Dl (S : ST) (p : Nat) : g_Dl (o_Meet S p) = g_Dl S := by
  unfold o_Meet
  repeat' split
  all_goals rfl
theorem o_ERes_T1 (S : ST) (p : Nat) : g_T1 (o_ERes S p) = g_T1 S := rfl
theorem o_ERes_T2 (S : ST) (p : Nat) : g_T2 (o_ERes S p) = g_T2 S := rfl
theorem o_ERes_T3 (S : ST) (p : Nat) : g_T3 (o_ERes S p) = g_T3 S := rfl
theorem o_ERes_N (S : ST) (p : Nat) : g_N (o_ERes S p) = g_N S := rfl
theorem o_ERes_Gr (S : ST) (p : Nat) : g_Gr (o_ERes S p) = g_Gr S := rfl
theorem o_ERes_St (S : ST) (p : Nat) : g_St (o_ERes S p) = g_St S := rfl
theorem o_ERes_Rt (S : ST) (p : Nat) : g_Rt (o_ERes S p) = g_Rt S := rfl
theorem o_ERes_Hm (S : ST) (p : Nat) : g_Hm (o_ERes S p) = g_Hm S := rfl
theorem o_ERes_Of (S : ST) (p : Nat) : g_Of (o_ERes S p) = g_Of S := rfl
theorem o_ERes_Ho (S : ST) (p : Nat) : g_Ho (o_ERes S p) = g_Ho S := rfl
theorem o_ERes_Hs (S : ST) (p : Nat) : g_Hs (o_ERes S p) = g_Hs S := rfl
theorem o_ERes_Hz (S : ST) (p : Nat) : g_Hz (o_ERes S p) = g_Hz S := rfl
theorem o_ERes_Df (S : ST) (p : Nat) : g_Df (o_ERes S p) = g_Df S := rfl
theorem o_ERes_Dl (S : ST) (p : Nat) : g_Dl (o_ERes S p) = g_Dl S := rfl
theorem o_CDa_T1 (S : ST) (p : Nat) : g_T1 ((o_CDa S p).2) = g_T1 S := by
  unfold o_CDa
  repeat' split
  all_goals rfl
theorem o_CDa_T2 (S : ST) (p : Nat) : g_T2 ((o_CDa S p).2) = g_T2 S := by
  unfold o_CDa
  repeat' split
  all_goals rfl
theorem o_CDa_T3 (S : ST) (p : Nat) : g_T3 ((o_CDa S p).2) = g_T3 S := by
  unfold o_CDa
  repeat' split
  all_goals rfl
theorem o_CDa_N (S : ST) (p : Nat) : g_N ((o_CDa S p).2) = g_N S := by
  unfold o_CDa
  repeat' split
  all_goals rfl
theorem o_CDa_Gr (S : ST) (p : Nat) : g_Gr ((o_CDa S p).2) = g_Gr S := by
  unfold o_CDa
  repeat' split
  all_goals rfl
theorem o_CDa_Hm (S : ST) (p : Nat) : g_Hm ((o_CDa S p).2) = g_Hm S := by
  unfold o_CDa
  repeat' split
  all_goals rfl
theorem o_CDa_Of (S : ST) (p : Nat) : g_Of ((o_CDa S p).2) = g_Of S := by
  unfold o_CDa
  repeat' split
  all_goals rfl
theorem o_CDa_Ho (S : ST) (p : Nat) : g_Ho ((o_CDa S p).2) = g_Ho S := by
  unfold o_CDa
  repeat' split
  all_goals rfl
theorem o_CDa_Hs (S : ST) (p : Nat) : g_Hs ((o_CDa S p).2) = g_Hs S := by
  unfold o_CDa
  repeat' split
  all_goals rfl
theorem o_CDa_Hz (S : ST) (p : Nat) : g_Hz ((o_CDa S p).2) = g_Hz S := by
  unfold o_CDa
  repeat' split
  all_goals rfl
theorem o_CDa_Df (S : ST) (p : Nat) : g_Df ((o_CDa S p).2) = g_Df S := by
  unfold o_CDa
  repeat' split
  all_goals rfl
theorem o_CDa_Dl (S : ST) (p : Nat) : g_Dl ((o_CDa S p).2) = g_Dl S := by
  unfold o_CDa
  repeat' split
  all_goals rfl
theorem o_CDb_T1 (S : ST) (p : Nat) : g_T1 ((o_CDb S p).2) = g_T1 S := by
  unfold o_CDb
  repeat' split
  all_goals rfl
theorem o_CDb_T2 (S : ST) (p : Nat) : g_T2 ((o_CDb S p).2) = g_T2 S := by
  unfold o_CDb
  repeat' split
  all_goals rfl
theorem o_CDb_T3 (S : ST) (p : Nat) : g_T3 ((o_CDb S p).2) = g_T3 S := by
  unfold o_CDb
  repeat' split
  all_goals rfl
theorem o_CDb_N (S : ST) (p : Nat) : g_N ((o_CDb S p).2) = g_N S := by
  unfold o_CDb
  repeat' split
  all_goals rfl
theorem o_CDb_Gr (S : ST) (p : Nat) : g_Gr ((o_CDb S p).2) = g_Gr S := by
  unfold o_CDb
  repeat' split
  all_goals rfl
theorem o_CDb_St (S : ST) (p : Nat) : g_St ((o_CDb S p).2) = g_St S := by
  unfold o_CDb
  repeat' split
  all_goals rfl
theorem o_CDb_Rt (S : ST) (p : Nat) : g_Rt ((o_CDb S p).2) = g_Rt S := by
  unfold o_CDb
  repeat' split
  all_goals rfl
theorem o_CDb_Hm (S : ST) (p : Nat) : g_Hm ((o_CDb S p).2) = g_Hm S := by
  unfold o_CDb
  repeat' split
  all_goals rfl
theorem o_CDb_Of (S : ST) (p : Nat) : g_Of ((o_CDb S p).2) = g_Of S := by
  unfold o_CDb
  repeat' split
  all_goals rfl
theorem o_CDb_Ho (S : ST) (p : Nat) : g_Ho ((o_CDb S p).2) = g_Ho S := by
  unfold o_CDb
  repeat' split
  all_goals rfl
theorem o_CDb_Hs (S : ST) (p : Nat) : g_Hs ((o_CDb S p).2) = g_Hs S := by
  unfold o_CDb
  repeat' split
  all_goals rfl
theorem o_CDb_Hz (S : ST) (p : Nat) : g_Hz ((o_CDb S p).2) = g_Hz S := by
  unfold o_CDb
  repeat' split
  all_goals rfl
theorem o_CDb_Df (S : ST) (p : Nat) : g_Df ((o_CDb S p).2) = g_Df S := by
  unfold o_CDb
  repeat' split
  all_goals rfl
theorem o_CDb_Dl (S : ST) (p : Nat) : g_Dl ((o_CDb S p).2) = g_Dl S := by
  unfold o_CDb
  repeat' split
  all_goals rfl
theorem o_CD_T1 (S : ST) (p : Nat) : g_T1 ((o_CD S p).2) = g_T1 S := (o_CDb_T1 _ p).trans (o_CDa_T1 S p)
theorem o_CD_T2 (S : ST) (p : Nat) : g_T2 ((o_CD S p).2) = g_T2 S := (o_CDb_T2 _ p).trans (o_CDa_T2 S p)
theorem o_CD_T3 (S : ST) (p : Nat) : g_T3 ((o_CD S p).2) = g_T3 S := (o_CDb_T3 _ p).trans (o_CDa_T3 S p)
theorem o_CD_N (S : ST) (p : Nat) : g_N ((o_CD S p).2) = g_N S := (o_CDb_N _ p).trans (o_CDa_N S p)
theorem o_CD_Gr (S : ST) (p : Nat) : g_Gr ((o_CD S p).2) = g_Gr S := (o_CDb_Gr _ p).trans (o_CDa_Gr S p)
theorem o_CD_Hm (S : ST) (p : Nat) : g_Hm ((o_CD S p).2) = g_Hm S := (o_CDb_Hm _ p).trans (o_CDa_Hm S p)
theorem o_CD_Of (S : ST) (p : Nat) : g_Of ((o_CD S p).2) = g_Of S := (o_CDb_Of _ p).trans (o_CDa_Of S p)
theorem o_CD_Ho (S : ST) (p : Nat) : g_Ho ((o_CD S p).2) = g_Ho S := (o_CDb_Ho _ p).trans (o_CDa_Ho S p)
theorem o_CD_Hs (S : ST) (p : Nat) : g_Hs ((o_CD S p).2) = g_Hs S := (o_CDb_Hs _ p).trans (o_CDa_Hs S p)
theorem o_CD_Hz (S : ST) (p : Nat) : g_Hz ((o_CD S p).2) = g_Hz S := (o_CDb_Hz _ p).trans (o_CDa_Hz S p)
theorem o_CD_Df (S : ST) (p : Nat) : g_Df ((o_CD S p).2) = g_Df S := (o_CDb_Df _ p).trans (o_CDa_Df S p)
theorem o_CD_Dl (S : ST) (p : Nat) : g_Dl ((o_CD S p).2) = g_Dl S := (o_CDb_Dl _ p).trans (o_CDa_Dl S p)
theorem a_1_T1 (S : ST) (r : Nat) (hop len : Int32) (p : Nat) : g_T1 (a_1 S r hop len p) = g_T1 S := by
  unfold a_1
  repeat' split
  all_goals rfl
theorem a_1_T2 (S : ST) (r : Nat) (hop len : Int32) (p : Nat) : g_T2 (a_1 S r hop len p) = g_T2 S := by
  unfold a_1
  repeat' split
  all_goals rfl
theorem a_1_T3 (S : ST) (r : Nat) (hop len : Int32) (p : Nat) : g_T3 (a_1 S r hop len p) = g_T3 S := by
  unfold a_1
  repeat' split
  all_goals rfl
theorem a_1_N (S : ST) (r : Nat) (hop len : Int32) (p : Nat) : g_N (a_1 S r hop len p) = g_N S := by
  unfold a_1
  repeat' split
  all_goals rfl
theorem a_1_Gr (S : ST) (r : Nat) (hop len : Int32) (p : Nat) : g_Gr (a_1 S r hop len p) = g_Gr S := by
  unfold a_1
  repeat' split
  all_goals rfl
theorem a_1_St (S : ST) (r : Nat) (hop len : Int32) (p : Nat) : g_St (a_1 S r hop len p) = g_St S := by
  unfold a_1
  repeat' split
  all_goals rfl
theorem a_1_Rt (S : ST) (r : Nat) (hop len : Int32) (p : Nat) : g_Rt (a_1 S r hop len p) = g_Rt S := by
  unfold a_1
  repeat' split
  all_goals rfl
theorem a_1_Sl (S : ST) (r : Nat) (hop len : Int32) (p : Nat) : g_Sl (a_1 S r hop len p) = g_Sl S := by
  unfold a_1
  repeat' split
  all_goals rfl
theorem a_1_Hm (S : ST) (r : Nat) (hop len : Int32) (p : Nat) : g_Hm (a_1 S r hop len p) = g_Hm S := by
  unfold a_1
  repeat' split
  all_goals rfl
theorem a_1_Of (S : ST) (r : Nat) (hop len : Int32) (p : Nat) : g_Of (a_1 S r hop len p) = g_Of S := by
  unfold a_1
  repeat' split
  all_goals rfl
theorem a_1_Ho (S : ST) (r : Nat) (hop len : Int32) (p : Nat) : g_Ho (a_1 S r hop len p) = g_Ho S := by
  unfold a_1
  repeat' split
  all_goals rfl
theorem a_1_Hs (S : ST) (r : Nat) (hop len : Int32) (p : Nat) : g_Hs (a_1 S r hop len p) = g_Hs S := by
  unfold a_1
  repeat' split
  all_goals rfl
theorem a_1_Hz (S : ST) (r : Nat) (hop len : Int32) (p : Nat) : g_Hz (a_1 S r hop len p) = g_Hz S := by
  unfold a_1
  repeat' split
  all_goals rfl
theorem a_1_Df (S : ST) (r : Nat) (hop len : Int32) (p : Nat) : g_Df (a_1 S r hop len p) = g_Df S := by
  unfold a_1
  repeat' split
  all_goals rfl
theorem a_1_Dl (S : ST) (r : Nat) (hop len : Int32) (p : Nat) : g_Dl (a_1 S r hop len p) = g_Dl S := by
  unfold a_1
  repeat' split
  all_goals rfl
theorem a_i_T1 (S : ST) (r : Nat) (hop len : Int32) (i : Nat) : g_T1 (a_i S r hop len i) = g_T1 S := by
  induction i with
  | zero => rfl
  | succ i ih => exact (a_1_T1 _ r hop len i).trans ih
theorem a_i_T2 (S : ST) (r : Nat) (hop len : Int32) (i : Nat) : g_T2 (a_i S r hop len i) = g_T2 S := by
  induction i with
  | zero => rfl
  | succ i ih => exact (a_1_T2 _ r hop len i).trans ih
theorem a_i_T3 (S : ST) (r : Nat) (hop len : Int32) (i : Nat) : g_T3 (a_i S r hop len i) = g_T3 S := by
  induction i with
  | zero => rfl
  | succ i ih => exact (a_1_T3 _ r hop len i).trans ih
theorem a_i_N (S : ST) (r : Nat) (hop len : Int32) (i : Nat) : g_N (a_i S r hop len i) = g_N S := by
  induction i with
  | zero => rfl
  | succ i ih => exact (a_1_N _ r hop len i).trans ih
theorem a_i_Gr (S : ST) (r : Nat) (hop len : Int32) (i : Nat) : g_Gr (a_i S r hop len i) = g_Gr S := by
  induction i with
  | zero => rfl
  | succ i ih => exact (a_1_Gr _ r hop len i).trans ih
theorem a_i_St (S : ST) (r : Nat) (hop len : Int32) (i : Nat) : g_St (a_i S r hop len i) = g_St S := by
  induction i with
  | zero => rfl
  | succ i ih => exact (a_1_St _ r hop len i).trans ih
theorem a_i_Rt (S : ST) (r : Nat) (hop len : Int32) (i : Nat) : g_Rt (a_i S r hop len i) = g_Rt S := by
  induction i with
  | zero => rfl
  | succ i ih => exact (a_1_Rt _ r hop len i).trans ih
theorem a_i_Sl (S : ST) (r : Nat) (hop len : Int32) (i : Nat) : g_Sl (a_i S r hop len i) = g_Sl S := by
  induction i with
  | zero => rfl
  | succ i ih => exact (a_1_Sl _ r hop len i).trans ih
theorem a_i_Hm (S : ST) (r : Nat) (hop len : Int32) (i : Nat) : g_Hm (a_i S r hop len i) = g_Hm S := by
  induction i with
  | zero => rfl
  | succ i ih => exact (a_1_Hm _ r hop len i).trans ih
theorem a_i_Of (S : ST) (r : Nat) (hop len : Int32) (i : Nat) : g_Of (a_i S r hop len i) = g_Of S := by
  induction i with
  | zero => rfl
  | succ i ih => exact (a_1_Of _ r hop len i).trans ih
theorem a_i_Ho (S : ST) (r : Nat) (hop len : Int32) (i : Nat) : g_Ho (a_i S r hop len i) = g_Ho S := by
  induction i with
  | zero => rfl
  | succ i ih => exact (a_1_Ho _ r hop len i).trans ih
theorem a_i_Hs (S : ST) (r : Nat) (hop len : Int32) (i : Nat) : g_Hs (a_i S r hop len i) = g_Hs S := by
  induction i with
  | zero => rfl
  | succ i ih => exact (a_1_Hs _ r hop len i).trans ih
theorem a_i_Hz (S : ST) (r : Nat) (hop len : Int32) (i : Nat) : g_Hz (a_i S r hop len i) = g_Hz S := by
  induction i with
  | zero => rfl
  | succ i ih => exact (a_1_Hz _ r hop len i).trans ih
theorem a_i_Df (S : ST) (r : Nat) (hop len : Int32) (i : Nat) : g_Df (a_i S r hop len i) = g_Df S := by
  induction i with
  | zero => rfl
  | succ i ih => exact (a_1_Df _ r hop len i).trans ih
theorem a_i_Dl (S : ST) (r : Nat) (hop len : Int32) (i : Nat) : g_Dl (a_i S r hop len i) = g_Dl S := by
  induction i with
  | zero => rfl
  | succ i ih => exact (a_1_Dl _ r hop len i).trans ih
theorem o_Sel_T1 (S : ST) (r : Nat) : g_T1 (o_Sel S r) = g_T1 S := (a_i_T1 _ r _ _ _).trans rfl
theorem o_Sel_T2 (S : ST) (r : Nat) : g_T2 (o_Sel S r) = g_T2 S := (a_i_T2 _ r _ _ _).trans rfl
theorem o_Sel_T3 (S : ST) (r : Nat) : g_T3 (o_Sel S r) = g_T3 S := (a_i_T3 _ r _ _ _).trans rfl
theorem o_Sel_N (S : ST) (r : Nat) : g_N (o_Sel S r) = g_N S := (a_i_N _ r _ _ _).trans rfl
theorem o_Sel_Gr (S : ST) (r : Nat) : g_Gr (o_Sel S r) = g_Gr S := (a_i_Gr _ r _ _ _).trans rfl
theorem o_Sel_St (S : ST) (r : Nat) : g_St (o_Sel S r) = g_St S := (a_i_St _ r _ _ _).trans rfl
theorem o_Sel_Rt (S : ST) (r : Nat) : g_Rt (o_Sel S r) = g_Rt S := (a_i_Rt _ r _ _ _).trans rfl
theorem o_Sel_Sl (S : ST) (r : Nat) : g_Sl (o_Sel S r) = g_Sl S := (a_i_Sl _ r _ _ _).trans rfl
theorem o_Sel_Hm (S : ST) (r : Nat) : g_Hm (o_Sel S r) = g_Hm S := (a_i_Hm _ r _ _ _).trans rfl
theorem o_Sel_Of (S : ST) (r : Nat) : g_Of (o_Sel S r) = g_Of S := (a_i_Of _ r _ _ _).trans rfl
theorem o_Sel_Df (S : ST) (r : Nat) : g_Df (o_Sel S r) = g_Df S := (a_i_Df _ r _ _ _).trans rfl
theorem o_Sel_Dl (S : ST) (r : Nat) : g_Dl (o_Sel S r) = g_Dl S := (a_i_Dl _ r _ _ _).trans rfl
theorem o_SA_T1 (S : ST) (i : Nat) : g_T1 (o_SA S i) = g_T1 S := by
  induction i with
  | zero => rfl
  | succ i ih => exact (o_Sel_T1 _ i).trans ih
theorem o_SA_T2 (S : ST) (i : Nat) : g_T2 (o_SA S i) = g_T2 S := by
  induction i with
  | zero => rfl
  | succ i ih => exact (o_Sel_T2 _ i).trans ih
theorem o_SA_T3 (S : ST) (i : Nat) : g_T3 (o_SA S i) = g_T3 S := by
  induction i with
  | zero => rfl
  | succ i ih => exact (o_Sel_T3 _ i).trans ih
theorem o_SA_N (S : ST) (i : Nat) : g_N (o_SA S i) = g_N S := by
  induction i with
  | zero => rfl
  | succ i ih => exact (o_Sel_N _ i).trans ih
theorem o_SA_Gr (S : ST) (i : Nat) : g_Gr (o_SA S i) = g_Gr S := by
  induction i with
  | zero => rfl
  | succ i ih => exact (o_Sel_Gr _ i).trans ih
theorem o_SA_St (S : ST) (i : Nat) : g_St (o_SA S i) = g_St S := by
  induction i with
  | zero => rfl
  | succ i ih => exact (o_Sel_St _ i).trans ih
theorem o_SA_Rt (S : ST) (i : Nat) : g_Rt (o_SA S i) = g_Rt S := by
  induction i with
  | zero => rfl
  | succ i ih => exact (o_Sel_Rt _ i).trans ih
theorem o_SA_Sl (S : ST) (i : Nat) : g_Sl (o_SA S i) = g_Sl S := by
  induction i with
  | zero => rfl
  | succ i ih => exact (o_Sel_Sl _ i).trans ih
theorem o_SA_Hm (S : ST) (i : Nat) : g_Hm (o_SA S i) = g_Hm S := by
  induction i with
  | zero => rfl
  | succ i ih => exact (o_Sel_Hm _ i).trans ih
theorem o_SA_Of (S : ST) (i : Nat) : g_Of (o_SA S i) = g_Of S := by
  induction i with
  | zero => rfl
  | succ i ih => exact (o_Sel_Of _ i).trans ih
theorem o_SA_Df (S : ST) (i : Nat) : g_Df (o_SA S i) = g_Df S := by
  induction i with
  | zero => rfl
  | succ i ih => exact (o_Sel_Df _ i).trans ih
theorem o_SA_Dl (S : ST) (i : Nat) : g_Dl (o_SA S i) = g_Dl S := by
  induction i with
  | zero => rfl
  | succ i ih => exact (o_Sel_Dl _ i).trans ih
theorem o_ER_T1 (S : ST) (i : Nat) : g_T1 (o_ER S i) = g_T1 S := by
  induction i with
  | zero => rfl
  | succ i ih =>
    simp only [o_ER]
    split
    · exact (o_ERes_T1 _ i).trans ih
    · exact ih
theorem o_ER_T2 (S : ST) (i : Nat) : g_T2 (o_ER S i) = g_T2 S := by
  induction i with
  | zero => rfl
  | succ i ih =>
    simp only [o_ER]
    split
    · exact (o_ERes_T2 _ i).trans ih
    · exact ih
theorem o_ER_T3 (S : ST) (i : Nat) : g_T3 (o_ER S i) = g_T3 S := by
  induction i with
  | zero => rfl
  | succ i ih =>
    simp only [o_ER]
    split
    · exact (o_ERes_T3 _ i).trans ih
    · exact ih
theorem o_ER_N (S : ST) (i : Nat) : g_N (o_ER S i) = g_N S := by
  induction i with
  | zero => rfl
  | succ i ih =>
    simp only [o_ER]
    split
    · exact (o_ERes_N _ i).trans ih
    · exact ih
theorem o_ER_Gr (S : ST) (i : Nat) : g_Gr (o_ER S i) = g_Gr S := by
  induction i with
  | zero => rfl
  | succ i ih =>
    simp only [o_ER]
    split
    · exact (o_ERes_Gr _ i).trans ih
    · exact ih
theorem o_ER_St (S : ST) (i : Nat) : g_St (o_ER S i) = g_St S := by
  induction i with
  | zero => rfl
  | succ i ih =>
    simp only [o_ER]
    split
    · exact (o_ERes_St _ i).trans ih
    · exact ih
theorem o_ER_Rt (S : ST) (i : Nat) : g_Rt (o_ER S i) = g_Rt S := by
  induction i with
  | zero => rfl
  | succ i ih =>
    simp only [o_ER]
    split
    · exact (o_ERes_Rt _ i).trans ih
    · exact ih
theorem o_ER_Hm (S : ST) (i : Nat) : g_Hm (o_ER S i) = g_Hm S := by
  induction i with
  | zero => rfl
  | succ i ih =>
    simp only [o_ER]
    split
    · exact (o_ERes_Hm _ i).trans ih
    · exact ih
theorem o_ER_Of (S : ST) (i : Nat) : g_Of (o_ER S i) = g_Of S := by
  induction i with
  | zero => rfl
  | succ i ih =>
    simp only [o_ER]
    split
    · exact (o_ERes_Of _ i).trans ih
    · exact ih
theorem o_ER_Ho (S : ST) (i : Nat) : g_Ho (o_ER S i) = g_Ho S := by
  induction i with
  | zero => rfl
  | succ i ih =>
    simp only [o_ER]
    split
    · exact (o_ERes_Ho _ i).trans ih
    · exact ih
theorem o_ER_Hs (S : ST) (i : Nat) : g_Hs (o_ER S i) = g_Hs S := by
  induction i with
  | zero => rfl
  | succ i ih =>
    simp only [o_ER]
    split
    · exact (o_ERes_Hs _ i).trans ih
    · exact ih
theorem o_ER_Hz (S : ST) (i : Nat) : g_Hz (o_ER S i) = g_Hz S := by
  induction i with
  | zero => rfl
  | succ i ih =>
    simp only [o_ER]
    split
    · exact (o_ERes_Hz _ i).trans ih
    · exact ih
theorem o_ER_Df (S : ST) (i : Nat) : g_Df (o_ER S i) = g_Df S := by
  induction i with
  | zero => rfl
  | succ i ih =>
    simp only [o_ER]
    split
    · exact (o_ERes_Df _ i).trans ih
    · exact ih
theorem o_ER_Dl (S : ST) (i : Nat) : g_Dl (o_ER S i) = g_Dl S := by
  induction i with
  | zero => rfl
  | succ i ih =>
    simp only [o_ER]
    split
    · exact (o_ERes_Dl _ i).trans ih
    · exact ih
theorem o_End_T1 (S : ST) : g_T1 (o_End S) = g_T1 S := (o_ER_T1 _ _).trans ((o_SA_T1 _ _).trans rfl)
theorem o_End_T2 (S : ST) : g_T2 (o_End S) = g_T2 S := (o_ER_T2 _ _).trans ((o_SA_T2 _ _).trans rfl)
theorem o_End_T3 (S : ST) : g_T3 (o_End S) = g_T3 S := (o_ER_T3 _ _).trans ((o_SA_T3 _ _).trans rfl)
theorem o_End_N (S : ST) : g_N (o_End S) = g_N S := (o_ER_N _ _).trans ((o_SA_N _ _).trans rfl)
theorem o_End_Gr (S : ST) : g_Gr (o_End S) = g_Gr S := (o_ER_Gr _ _).trans ((o_SA_Gr _ _).trans rfl)
theorem o_End_St (S : ST) : g_St (o_End S) = g_St S := (o_ER_St _ _).trans ((o_SA_St _ _).trans rfl)
theorem o_End_Rt (S : ST) : g_Rt (o_End S) = g_Rt S := (o_ER_Rt _ _).trans ((o_SA_Rt _ _).trans rfl)
theorem o_End_Hm (S : ST) : g_Hm (o_End S) = g_Hm S := (o_ER_Hm _ _).trans ((o_SA_Hm _ _).trans rfl)
theorem o_End_Of (S : ST) : g_Of (o_End S) = g_Of S := (o_ER_Of _ _).trans ((o_SA_Of _ _).trans rfl)
theorem o_Chk_T1 (S : ST) : g_T1 (o_Chk S) = g_T1 S := by
  unfold o_Chk
  split
  · rfl
  · split
    · exact o_End_T1 S
    · rfl
theorem o_Chk_T2 (S : ST) : g_T2 (o_Chk S) = g_T2 S := by
  unfold o_Chk
  split
  · rfl
  · split
    · exact o_End_T2 S
    · rfl
theorem o_Chk_T3 (S : ST) : g_T3 (o_Chk S) = g_T3 S := by
  unfold o_Chk
  split
  · rfl
  · split
    · exact o_End_T3 S
    · rfl
theorem o_Chk_N (S : ST) : g_N (o_Chk S) = g_N S := by
  unfold o_Chk
  split
  · rfl
  · split
    · exact o_End_N S
    · rfl
theorem o_Chk_Gr (S : ST) : g_Gr (o_Chk S) = g_Gr S := by
  unfold o_Chk
  split
  · rfl
  · split
    · exact o_End_Gr S
    · rfl
theorem o_Chk_St (S : ST) : g_St (o_Chk S) = g_St S := by
  unfold o_Chk
  split
  · rfl
  · split
    · exact o_End_St S
    · rfl
theorem o_Chk_Rt (S : ST) : g_Rt (o_Chk S) = g_Rt S := by
  unfold o_Chk
  split
  · rfl
  · split
    · exact o_End_Rt S
    · rfl
theorem o_Chk_Hm (S : ST) : g_Hm (o_Chk S) = g_Hm S := by
  unfold o_Chk
  split
  · rfl
  · split
    · exact o_End_Hm S
    · rfl
theorem o_Chk_Of (S : ST) : g_Of (o_Chk S) = g_Of S := by
  unfold o_Chk
  split
  · rfl
  · split
    · exact o_End_Of S
    · rfl
theorem o_CDs_T1 (S : ST) (i : Nat) : g_T1 ((o_CDs S i).2) = g_T1 S := by
  induction i with
  | zero => rfl
  | succ i ih => exact (o_CD_T1 _ i).trans ih
theorem o_CDs_T2 (S : ST) (i : Nat) : g_T2 ((o_CDs S i).2) = g_T2 S := by
  induction i with
  | zero => rfl
  | succ i ih => exact (o_CD_T2 _ i).trans ih
theorem o_CDs_T3 (S : ST) (i : Nat) : g_T3 ((o_CDs S i).2) = g_T3 S := by
  induction i with
  | zero => rfl
  | succ i ih => exact (o_CD_T3 _ i).trans ih
theorem o_CDs_N (S : ST) (i : Nat) : g_N ((o_CDs S i).2) = g_N S := by
  induction i with
  | zero => rfl
  | succ i ih => exact (o_CD_N _ i).trans ih
theorem o_CDs_Gr (S : ST) (i : Nat) : g_Gr ((o_CDs S i).2) = g_Gr S := by
  induction i with
  | zero => rfl
  | succ i ih => exact (o_CD_Gr _ i).trans ih
theorem o_CDs_Hm (S : ST) (i : Nat) : g_Hm ((o_CDs S i).2) = g_Hm S := by
  induction i with
  | zero => rfl
  | succ i ih => exact (o_CD_Hm _ i).trans ih
theorem o_CDs_Of (S : ST) (i : Nat) : g_Of ((o_CDs S i).2) = g_Of S := by
  induction i with
  | zero => rfl
  | succ i ih => exact (o_CD_Of _ i).trans ih
theorem o_CDs_Ho (S : ST) (i : Nat) : g_Ho ((o_CDs S i).2) = g_Ho S := by
  induction i with
  | zero => rfl
  | succ i ih => exact (o_CD_Ho _ i).trans ih
theorem o_CDs_Hs (S : ST) (i : Nat) : g_Hs ((o_CDs S i).2) = g_Hs S := by
  induction i with
  | zero => rfl
  | succ i ih => exact (o_CD_Hs _ i).trans ih
theorem o_CDs_Hz (S : ST) (i : Nat) : g_Hz ((o_CDs S i).2) = g_Hz S := by
  induction i with
  | zero => rfl
  | succ i ih => exact (o_CD_Hz _ i).trans ih
theorem o_CDs_Df (S : ST) (i : Nat) : g_Df ((o_CDs S i).2) = g_Df S := by
  induction i with
  | zero => rfl
  | succ i ih => exact (o_CD_Df _ i).trans ih
theorem o_CDs_Dl (S : ST) (i : Nat) : g_Dl ((o_CDs S i).2) = g_Dl S := by
  induction i with
  | zero => rfl
  | succ i ih => exact (o_CD_Dl _ i).trans ih
theorem o_Dl1_T1 (S : ST) : g_T1 (o_Dl1 S) = g_T1 S := by unfold o_Dl1; split <;> rfl
theorem o_Dl1_T2 (S : ST) : g_T2 (o_Dl1 S) = g_T2 S := by unfold o_Dl1; split <;> rfl
theorem o_Dl1_T3 (S : ST) : g_T3 (o_Dl1 S) = g_T3 S := by unfold o_Dl1; split <;> rfl
theorem o_Dl1_N (S : ST) : g_N (o_Dl1 S) = g_N S := by unfold o_Dl1; split <;> rfl
theorem o_Dl1_Gr (S : ST) : g_Gr (o_Dl1 S) = g_Gr S := by unfold o_Dl1; split <;> rfl
theorem o_Dl1_St (S : ST) : g_St (o_Dl1 S) = g_St S := by unfold o_Dl1; split <;> rfl
theorem o_Dl1_Rt (S : ST) : g_Rt (o_Dl1 S) = g_Rt S := by unfold o_Dl1; split <;> rfl
theorem o_Dl1_Sl (S : ST) : g_Sl (o_Dl1 S) = g_Sl S := by unfold o_Dl1; split <;> rfl
theorem o_Dl1_Hm (S : ST) : g_Hm (o_Dl1 S) = g_Hm S := by unfold o_Dl1; split <;> rfl
theorem o_Dl1_Of (S : ST) : g_Of (o_Dl1 S) = g_Of S := by unfold o_Dl1; split <;> rfl
theorem o_Dl1_Le (S : ST) : g_Le (o_Dl1 S) = g_Le S := by unfold o_Dl1; split <;> rfl
theorem o_Dl1_Ss (S : ST) : g_Ss (o_Dl1 S) = g_Ss S := by unfold o_Dl1; split <;> rfl
theorem o_Dl1_Ho (S : ST) : g_Ho (o_Dl1 S) = g_Ho S := by unfold o_Dl1; split <;> rfl
theorem o_Dl1_Hs (S : ST) : g_Hs (o_Dl1 S) = g_Hs S := by unfold o_Dl1; split <;> rfl
theorem o_Dl1_Hz (S : ST) : g_Hz (o_Dl1 S) = g_Hz S := by unfold o_Dl1; split <;> rfl
theorem o_Dl1_Df (S : ST) : g_Df (o_Dl1 S) = g_Df S := by unfold o_Dl1; split <;> rfl
theorem o_Tk1_T1 (S : ST) : g_T1 (o_Tk1 S).2 = g_T1 S := (o_Chk_T1 _).trans ((o_Dl1_T1 _).trans (o_CDs_T1 S _))
theorem o_Tk1_T2 (S : ST) : g_T2 (o_Tk1 S).2 = g_T2 S := (o_Chk_T2 _).trans ((o_Dl1_T2 _).trans (o_CDs_T2 S _))
theorem o_Tk1_T3 (S : ST) : g_T3 (o_Tk1 S).2 = g_T3 S := (o_Chk_T3 _).trans ((o_Dl1_T3 _).trans (o_CDs_T3 S _))
theorem o_Tk1_N (S : ST) : g_N (o_Tk1 S).2 = g_N S := (o_Chk_N _).trans ((o_Dl1_N _).trans (o_CDs_N S _))
theorem o_Tk1_Gr (S : ST) : g_Gr (o_Tk1 S).2 = g_Gr S := (o_Chk_Gr _).trans ((o_Dl1_Gr _).trans (o_CDs_Gr S _))
theorem o_Tk1_Hm (S : ST) : g_Hm (o_Tk1 S).2 = g_Hm S := (o_Chk_Hm _).trans ((o_Dl1_Hm _).trans (o_CDs_Hm S _))
theorem o_Tk1_Of (S : ST) : g_Of (o_Tk1 S).2 = g_Of S := (o_Chk_Of _).trans ((o_Dl1_Of _).trans (o_CDs_Of S _))
theorem o_Tk_T1 (S : ST) (i : Nat) : g_T1 ((o_Tk S i).2) = g_T1 S := by
  induction i with
  | zero => rfl
  | succ i ih => exact (o_Tk1_T1 _).trans ih
theorem o_Tk_T2 (S : ST) (i : Nat) : g_T2 ((o_Tk S i).2) = g_T2 S := by
  induction i with
  | zero => rfl
  | succ i ih => exact (o_Tk1_T2 _).trans ih
theorem o_Tk_T3 (S : ST) (i : Nat) : g_T3 ((o_Tk S i).2) = g_T3 S := by
  induction i with
  | zero => rfl
  | succ i ih => exact (o_Tk1_T3 _).trans ih
theorem o_Tk_N (S : ST) (i : Nat) : g_N ((o_Tk S i).2) = g_N S := by
  induction i with
  | zero => rfl
  | succ i ih => exact (o_Tk1_N _).trans ih
theorem o_Tk_Gr (S : ST) (i : Nat) : g_Gr ((o_Tk S i).2) = g_Gr S := by
  induction i with
  | zero => rfl
  | succ i ih => exact (o_Tk1_Gr _).trans ih
theorem o_Tk_Hm (S : ST) (i : Nat) : g_Hm ((o_Tk S i).2) = g_Hm S := by
  induction i with
  | zero => rfl
  | succ i ih => exact (o_Tk1_Hm _).trans ih
theorem o_Tk_Of (S : ST) (i : Nat) : g_Of ((o_Tk S i).2) = g_Of S := by
  induction i with
  | zero => rfl
  | succ i ih => exact (o_Tk1_Of _).trans ih
theorem o_Rs_T1 (S : ST) (i : Nat) : g_T1 ((o_Rs S i).2) = g_T1 S := by
  induction i with
  | zero => rfl
  | succ i ih =>
    simp only [o_Rs]
    split
    · exact (o_Lose_T1 _ i).trans ih
    · exact ih
theorem o_Rs_T2 (S : ST) (i : Nat) : g_T2 ((o_Rs S i).2) = g_T2 S := by
  induction i with
  | zero => rfl
  | succ i ih =>
    simp only [o_Rs]
    split
    · exact (o_Lose_T2 _ i).trans ih
    · exact ih
theorem o_Rs_T3 (S : ST) (i : Nat) : g_T3 ((o_Rs S i).2) = g_T3 S := by
  induction i with
  | zero => rfl
  | succ i ih =>
    simp only [o_Rs]
    split
    · exact (o_Lose_T3 _ i).trans ih
    · exact ih
theorem o_Rs_N (S : ST) (i : Nat) : g_N ((o_Rs S i).2) = g_N S := by
  induction i with
  | zero => rfl
  | succ i ih =>
    simp only [o_Rs]
    split
    · exact (o_Lose_N _ i).trans ih
    · exact ih
theorem o_Rs_Gr (S : ST) (i : Nat) : g_Gr ((o_Rs S i).2) = g_Gr S := by
  induction i with
  | zero => rfl
  | succ i ih =>
    simp only [o_Rs]
    split
    · exact (o_Lose_Gr _ i).trans ih
    · exact ih
theorem o_Rs_Of (S : ST) (i : Nat) : g_Of ((o_Rs S i).2) = g_Of S := by
  induction i with
  | zero => rfl
  | succ i ih =>
    simp only [o_Rs]
    split
    · exact (o_Lose_Of _ i).trans ih
    · exact ih
theorem o_Rs_Ho (S : ST) (i : Nat) : g_Ho ((o_Rs S i).2) = g_Ho S := by
  induction i with
  | zero => rfl
  | succ i ih =>
    simp only [o_Rs]
    split
    · exact (o_Lose_Ho _ i).trans ih
    · exact ih
theorem o_Rs_Hs (S : ST) (i : Nat) : g_Hs ((o_Rs S i).2) = g_Hs S := by
  induction i with
  | zero => rfl
  | succ i ih =>
    simp only [o_Rs]
    split
    · exact (o_Lose_Hs _ i).trans ih
    · exact ih
theorem o_Rs_Hz (S : ST) (i : Nat) : g_Hz ((o_Rs S i).2) = g_Hz S := by
  induction i with
  | zero => rfl
  | succ i ih =>
    simp only [o_Rs]
    split
    · exact (o_Lose_Hz _ i).trans ih
    · exact ih
theorem o_Rs_Df (S : ST) (i : Nat) : g_Df ((o_Rs S i).2) = g_Df S := by
  induction i with
  | zero => rfl
  | succ i ih =>
    simp only [o_Rs]
    split
    · exact (o_Lose_Df _ i).trans ih
    · exact ih
theorem o_Rs_Dl (S : ST) (i : Nat) : g_Dl ((o_Rs S i).2) = g_Dl S := by
  induction i with
  | zero => rfl
  | succ i ih =>
    simp only [o_Rs]
    split
    · exact (o_Lose_Dl _ i).trans ih
    · exact ih
theorem o_FT_T1 (S : ST) (pv : Int32) : g_T1 (o_FT S pv) = g_T1 S := by unfold o_FT; split <;> rfl
theorem o_FT_T2 (S : ST) (pv : Int32) : g_T2 (o_FT S pv) = g_T2 S := by unfold o_FT; split <;> rfl
theorem o_FT_T3 (S : ST) (pv : Int32) : g_T3 (o_FT S pv) = g_T3 S := by unfold o_FT; split <;> rfl
theorem o_FT_N (S : ST) (pv : Int32) : g_N (o_FT S pv) = g_N S := by unfold o_FT; split <;> rfl
theorem o_FT_Gr (S : ST) (pv : Int32) : g_Gr (o_FT S pv) = g_Gr S := by unfold o_FT; split <;> rfl
theorem o_FT_St (S : ST) (pv : Int32) : g_St (o_FT S pv) = g_St S := by unfold o_FT; split <;> rfl
theorem o_FT_Rt (S : ST) (pv : Int32) : g_Rt (o_FT S pv) = g_Rt S := by unfold o_FT; split <;> rfl
theorem o_FT_Sl (S : ST) (pv : Int32) : g_Sl (o_FT S pv) = g_Sl S := by unfold o_FT; split <;> rfl
theorem o_FT_Hm (S : ST) (pv : Int32) : g_Hm (o_FT S pv) = g_Hm S := by unfold o_FT; split <;> rfl
theorem o_FT_Of (S : ST) (pv : Int32) : g_Of (o_FT S pv) = g_Of S := by unfold o_FT; split <;> rfl
theorem o_FT_Le (S : ST) (pv : Int32) : g_Le (o_FT S pv) = g_Le S := by unfold o_FT; split <;> rfl
theorem o_FT_Ss (S : ST) (pv : Int32) : g_Ss (o_FT S pv) = g_Ss S := by unfold o_FT; split <;> rfl
theorem o_FT_Df (S : ST) (pv : Int32) : g_Df (o_FT S pv) = g_Df S := by unfold o_FT; split <;> rfl
theorem o_FT_Dl (S : ST) (pv : Int32) : g_Dl (o_FT S pv) = g_Dl S := by unfold o_FT; split <;> rfl
theorem va_up_id {α : Type} (f : Nat → α) (k : Nat) : va_up f k (f k) = f := by
  funext j
  by_cases h : j = k
  · subst h; exact va_up_self f j (f j)
  · exact va_up_ne f (f k) h
theorem upd_id (f : FR) (k : Nat) : upd f k (f k) = f := by
  funext j
  by_cases h : j = k
  · subst h; simp [upd]
  · simp [upd, h]
theorem upd_idv {f : FR} {k : Nat} {v : Int32} (h : f k = v) : upd f k v = f := by rw [← h]; exact upd_id f k
theorem upd_uu (f : FR) (k : Nat) (v w : Int32) : upd (upd f k v) k w = upd f k w := by
  funext j
  by_cases h : j = k
  · subst h; simp [upd]
  · simp [upd, h]
theorem row_up (L : GR) (p : Nat) {row row' : FR} {i : Nat} {v : Int32} (h : upd row i v = row') : va_up (va_up L p row) p (upd (va_up L p row p) i v) = va_up L p row' := by
  rw [va_up_self, h]; exact bx_uu L p row row'
theorem fl_row (w : Nat) (L : GR) {p i : Nat} (h : i < w) {row row' : FR} {v : Int32} (e : upd row i v = row') : upd (fl w (va_up L p row)) (w * p + i) v = fl w (va_up L p row') := by
  rw [fl_up w _ h, row_up L p e]
theorem fl_rd (w : Nat) (L : GR) {p i : Nat} (h : i < w) (row : FR) : fl w (va_up L p row) (w * p + i) = row i := by rw [fl_at w _ h, va_up_self]
/-- rows as the sessions keep them -/
def rowOk (L Z : FR) : Prop := ∀ r, 0 ≤ L r ∧ (¬ Z r = 0 → 0 < L r)
theorem i32_pos {x : Int32} (h : 0 < x) : ¬ x = 0 := by
  intro e; subst e; exact absurd h (by decide)
theorem i32_zero {x : Int32} (h : 0 ≤ x) (n : ¬ 0 < x) : x = 0 := by
  have h1 : x ≤ 0 := Int32.not_lt.mp n
  exact Int32.le_antisymm h1 h
theorem rowOk.zero {L Z : FR} (h : rowOk L Z) {r : Nat} (n : ¬ 0 < L r) : L r = 0 ∧ Z r = 0 := ⟨i32_zero (h r).1 n, Classical.byContradiction fun z => n ((h r).2 z)⟩
theorem okP_nat {n : Nat} {x : Int32} (hn : n ≤ 5) (h : okP n x) : ∃ k, k < n ∧ x = nI k := by
  rcases pk_ix x (n := n) (by omega) with a | a | ⟨j, hj, e⟩
  · exact absurd h.1 (Int32.not_le.mpr a)
  · exact absurd h.2 (Int32.not_lt.mpr a)
  · exact ⟨j, hj, e⟩
theorem okP_of {n k : Nat} (hn : n ≤ 5) (h : k < n) : okP n (nI k) := ⟨nI_pos' (by omega), nI_lt h (by omega)⟩
theorem rng_nat {M : Nat} (hM : M < 2 ^ 31) {x : Int32} (h : 0 ≤ x ∧ x < nI M) : ∃ k, k < M ∧ x = nI k := by
  rcases pk_ix x (n := M) hM with a | a | ⟨j, hj, e⟩
  · exact absurd h.1 (Int32.not_le.mpr a)
  · exact absurd h.2 (Int32.not_lt.mpr a)
  · exact ⟨j, hj, e⟩
theorem okR_nat {t f : Int32} (h : okR t f) : ∃ a b, a < 2 ∧ b < 8 ∧ t = nI a ∧ f = nI b := by
  obtain ⟨a, ha, ea⟩ := rng_nat (M := 2) (by decide) h.1
  obtain ⟨b, hb, eb⟩ := rng_nat (M := 8) (by decide) h.2
  exact ⟨a, b, ha, hb, ea, eb⟩
theorem wi_P {n : Nat} (hn : n ≤ 5) (x : Int32) : (if x < 0 then (0 : Int32) else if nI n - 1 < x then 0 else 1) = if okP n x then 1 else 0 := by
  by_cases h0 : x < 0
  · rw [if_pos h0, if_neg (fun h => absurd h0 (Int32.not_lt.mpr h.1))]
  · rw [if_neg h0]
    have e : (nI n - 1 < x) ↔ ¬ x < nI n := by
      rw [Int32.lt_iff_toInt_lt, Int32.lt_iff_toInt_lt, nI_one, pk_sub_toInt (by omega) (by omega), nI_toInt (by omega)]
      omega
    by_cases h1 : nI n - 1 < x
    · rw [if_pos h1, if_neg (fun h => e.mp h1 h.2)]
    · rw [if_neg h1, if_pos ⟨Int32.not_lt.mp h0, Classical.byContradiction fun z => h1 (e.mpr z)⟩]
theorem wi_c {x : Int32} {c d : Int32} (hd : c.toInt + 1 = d.toInt) : (c < x) ↔ ¬ x < d := by
  rw [Int32.lt_iff_toInt_lt, Int32.lt_iff_toInt_lt]
  omega
theorem wi_R (x : Int32) {c d : Int32} (hd : c.toInt + 1 = d.toInt) : (if x < 0 then (0 : Int32) else if c < x then 0 else 1) = if 0 ≤ x ∧ x < d then 1 else 0 := by
  by_cases h0 : x < 0
  · rw [if_pos h0, if_neg (fun h => absurd h0 (Int32.not_lt.mpr h.1))]
  · rw [if_neg h0]
    by_cases h1 : c < x
    · rw [if_pos h1, if_neg (fun h => (wi_c hd).mp h1 h.2)]
    · rw [if_neg h1, if_pos ⟨Int32.not_lt.mp h0, Classical.byContradiction fun z => h1 ((wi_c hd).mpr z)⟩]
/-- the best offer so far is an offer -/
theorem b_best (S : ST) (r i : Nat) : (b_at S r i).1 = -6 ∨ ∃ j, j < i ∧ (b_at S r i).1 = nI j ∧ (b_at S r i).2 = g_Of S j r ∧ 0 < g_Of S j r ∧ g_St S j = 0 := by
  induction i with
  | zero => exact Or.inl rfl
  | succ i ih =>
    simp only [b_at]
    split
    · rename_i h
      right
      by_cases hs : g_St S i = 0
      · have e : b_len S r i = g_Of S i r := by simp [b_len, hs]
        exact ⟨i, by omega, rfl, e, by rw [← e]; exact h.1, hs⟩
      · have e : b_len S r i = 0 := by simp [b_len, hs]
        rw [e] at h
        exact absurd h.1 (by decide)
    · rcases ih with h | ⟨j, h1, h2⟩
      · exact Or.inl h
      · exact Or.inr ⟨j, by omega, h2⟩
theorem nI_ne6 {j : Nat} (h : j < 2 ^ 31) : ¬ nI j = -6 := by
  intro e
  have := nI_pos' h
  rw [e] at this
  exact absurd this (by decide)
end
section
/-! the public calls, as functions of the state: answer and state behind -/
abbrev okT (x : Int32) : Prop := ¬ x < 1 ∧ ¬ 50 < x
abbrev okL (x : Int32) : Prop := ¬ x < 1 ∧ ¬ 20 < x
abbrev okK (x : Int32) : Prop := ¬ x < 1 ∧ ¬ 100 < x
abbrev okB (t : Int32) : Prop := 0 ≤ t ∧ t < 2
def kx (x : Int32) : Nat := x.toNatClampNeg
def rx (t f : Int32) : Nat := 8 * t.toNatClampNeg + f.toNatClampNeg
theorem kx_n {k : Nat} (h : k < 2 ^ 31) : kx (nI k) = k := nI_clamp h
theorem rx_n {a b : Nat} (ha : a < 2 ^ 31) (hb : b < 2 ^ 31) : rx (nI a) (nI b) = 8 * a + b := by rw [rx, nI_clamp ha, nI_clamp hb]
theorem wi_g (x lo hi : Int32) : (if x < lo then (0 : Int32) else if hi < x then 0 else 1) = if (¬ x < lo ∧ ¬ hi < x) then 1 else 0 := by
  by_cases h0 : x < lo
  · rw [if_pos h0, if_neg (fun h => h.1 h0)]
  · rw [if_neg h0]
    by_cases h1 : hi < x
    · rw [if_pos h1, if_neg (fun h => h.2 h1)]
    · rw [if_neg h1, if_pos ⟨h0, h1⟩]
def u_Ofr (S : ST) (p r : Nat) (len : Int32) : ST := if g_Df S = 0 ∧ g_St S p = 0 then o_Sel (s_Of S (va_up (g_Of S) p (upd (g_Of S p) r len))) r else s_Of S (va_up (g_Of S) p (upd (g_Of S p) r len))
def u_Ann (S : ST) (x t f len : Int32) : Int32 × ST := if okP (g_N S) x then (if okR t f then (if okL len then (g_Of S (kx x) (rx t f), u_Ofr S (kx x) (rx t f) len) else (-3, S)) else (-2, S)) else (-1, S)
def u_Wd (S : ST) (x t f : Int32) : Int32 × ST := if okP (g_N S) x then (if okR t f then (if g_Of S (kx x) (rx t f) = 0 then (-6, S) else (g_Of S (kx x) (rx t f), u_Ofr S (kx x) (rx t f) 0)) else (-2, S)) else (-1, S)
def u_New (S : ST) (g : Int32) : ST := s_N (s_St (s_Gr S (upd (g_Gr S) (g_N S) g)) (upd (g_St S) (g_N S) 0)) (g_N S + 1)
def u_Add (S : ST) (g : Int32) : Int32 × ST := if g_N S = 5 then (-5, S) else (nI (g_N S), if g_Df S = 0 then o_SA (u_New S g) 16 else u_New S g)
def u_Rc1 (S : ST) (p : Nat) : ST := if g_Df S = 0 then o_ERes (o_SA (o_Meet S p) 16) p else o_Meet S p
noncomputable def u_Rec (S : ST) (x : Int32) : Int32 × ST := if okP (g_N S) x then (if g_St S (kx x) = 0 then (-4, S) else (kCnt (pz (g_Of S (kx x))) 16, o_Chk (u_Rc1 S (kx x)))) else (-1, S)
def u_Ds1 (S : ST) (p : Nat) : ST := if g_Df S = 0 then o_SA (o_Down S p) 16 else o_Down S p
noncomputable def u_Dis (S : ST) (x : Int32) : Int32 × ST := if okP (g_N S) x then (if g_St S (kx x) = 2 then (-4, S) else (kCnt (nz (g_Le S (kx x))) 16, o_Chk (u_Ds1 S (kx x)))) else (-1, S)
def u_Mk (S : ST) (p t : Nat) : ST := s_Hm S (va_up (g_Hm S) p (upd (g_Hm S p) t 1))
noncomputable def u_Eot (S : ST) (x t : Int32) : Int32 × ST := if okP (g_N S) x then (if okB t then (if g_St S (kx x) = 0 then (if g_Hm S (kx x) (kx t) = 0 then (1, o_Chk (u_Mk S (kx x) (kx t))) else (0, S)) else (-4, S)) else (-2, S)) else (-1, S)
noncomputable def u_Tick (S : ST) (x : Int32) : Int32 × ST := if okK x then o_Tk S (kx x) else (-3, S)
def q_LL (S : ST) (x t f : Int32) : Int32 := if okP (g_N S) x then (if okR t f then (if g_Le S (kx x) (rx t f) = 0 then -6 else g_Le S (kx x) (rx t f)) else -2) else -1
def q_LS (S : ST) (x t f : Int32) : Int32 := if okP (g_N S) x then (if okR t f then (if g_Le S (kx x) (rx t f) = 0 then -6 else if g_Ss S (kx x) (rx t f) = 0 then 0 else 1) else -2) else -1
def q_Fw (S : ST) (x t f : Int32) : Int32 := if okP (g_N S) x then (if okR t f then o_Fw S (kx x) (rx t f) else -2) else -1
def q_Rf (n : Nat) (x t f : Int32) : Int32 := if okP n x then (if okR t f then 0 else -2) else -1
theorem nI_m1 (n : Nat) : nI (n + 1) - 1 = nI n := nI_pred n
end
section
/-! what holds of the state between calls -/
def i1 (S : ST) : Prop := g_N S ≤ 5
def i2 (S : ST) : Prop := ∀ p, rowOk (g_Le S p) (g_Ss S p)
def i3 (S : ST) : Prop := ∀ p r, 0 ≤ g_Of S p r ∧ g_Of S p r ≤ 20
def i4 (S : ST) : Prop := ∀ p, ¬ g_St S p = 1 → g_Rt S p = 0
def i5 (S : ST) : Prop := ∀ p, ¬ g_Rt S p = 0 → g_Sl S p = 0
def i6 (S : ST) : Prop := 0 ≤ g_Dl S ∧ 0 ≤ g_T3 S
def i7 (S : ST) : Prop := ∀ p, g_N S ≤ p → (∀ r, g_Of S p r = 0 ∧ g_Le S p r = 0 ∧ g_Ss S p r = 0) ∧ g_Rt S p = 0 ∧ g_Sl S p = 0 ∧ ∀ t, g_Hm S p t = 0
def i8 (S : ST) : Prop := ∀ r, ¬ g_Ho S r = -6 → g_Hz S r = g_Hs S r
def Inv (S : ST) : Prop := i1 S ∧ i2 S ∧ i3 S ∧ i4 S ∧ i5 S ∧ i6 S ∧ i7 S ∧ i8 S
theorem upd_s (f : FR) (k : Nat) (v : Int32) : upd f k v k = v := by simp [upd]
theorem upd_n (f : FR) {k j : Nat} (v : Int32) (h : ¬ j = k) : upd f k v j = f j := by simp [upd, h]
/-- rows of one peer -/
theorem inv_rows {S : ST} (h : Inv S) {p : Nat} (hp : p < g_N S) {L Z : FR} (hr : rowOk L Z) : Inv (s_Ss (s_Le S (va_up (g_Le S) p L)) (va_up (g_Ss S) p Z)) := by
  obtain ⟨h1, h2, h3, h4, h5, h6, h7, h8⟩ := h
  refine ⟨h1, ?_, h3, h4, h5, h6, ?_, h8⟩
  · intro q
    show rowOk (va_up (g_Le S) p L q) (va_up (g_Ss S) p Z q)
    by_cases e : q = p
    · subst e; rw [va_up_self, va_up_self]; exact hr
    · rw [va_up_ne _ _ e, va_up_ne _ _ e]; exact h2 q
  · intro q hq
    have e : q ≠ p := fun z => by
      have hq : g_N S ≤ q := hq
      omega
    obtain ⟨a, b⟩ := h7 q hq
    refine ⟨fun r => ?_, b⟩
    show g_Of S q r = 0 ∧ va_up (g_Le S) p L q r = 0 ∧ va_up (g_Ss S) p Z q r = 0
    rw [va_up_ne _ _ e, va_up_ne _ _ e]
    exact a r
theorem inv_row {S : ST} (h : Inv S) {p : Nat} (hp : p < g_N S) {L : FR} (hr : rowOk L (g_Ss S p)) : Inv (s_Le S (va_up (g_Le S) p L)) := by
  have := inv_rows h hp hr
  rw [va_up_id] at this
  exact this
theorem inv_ssrow {S : ST} (h : Inv S) {p : Nat} (hp : p < g_N S) {Z : FR} (hr : rowOk (g_Le S p) Z) : Inv (s_Ss S (va_up (g_Ss S) p Z)) := by
  have := inv_rows h hp hr
  rw [va_up_id] at this
  exact this
/-- state and timers of one peer -/
theorem inv_tim {S : ST} (h : Inv S) {p : Nat} (hp : p < g_N S) {a b c : Int32} (ha : ¬ a = 1 → b = 0) (hb : ¬ b = 0 → c = 0) : Inv (s_Sl (s_Rt (s_St S (upd (g_St S) p a)) (upd (g_Rt S) p b)) (upd (g_Sl S) p c)) := by
  obtain ⟨h1, h2, h3, h4, h5, h6, h7, h8⟩ := h
  refine ⟨h1, h2, h3, ?_, ?_, h6, ?_, h8⟩
  · intro q
    show ¬ upd (g_St S) p a q = 1 → upd (g_Rt S) p b q = 0
    by_cases e : q = p
    · subst e; rw [upd_s, upd_s]; exact ha
    · rw [upd_n _ _ e, upd_n _ _ e]; exact h4 q
  · intro q
    show ¬ upd (g_Rt S) p b q = 0 → upd (g_Sl S) p c q = 0
    by_cases e : q = p
    · subst e; rw [upd_s, upd_s]; exact hb
    · rw [upd_n _ _ e, upd_n _ _ e]; exact h5 q
  · intro q hq
    have e : ¬ q = p := fun z => by
      have hq : g_N S ≤ q := hq
      omega
    obtain ⟨x1, x2, x3, x4⟩ := h7 q hq
    refine ⟨x1, ?_, ?_, x4⟩
    · show upd (g_Rt S) p b q = 0
      rw [upd_n _ _ e]; exact x2
    · show upd (g_Sl S) p c q = 0
      rw [upd_n _ _ e]; exact x3
theorem rowOk_cutS {L Z : FR} (h : rowOk L Z) (n : Nat) : rowOk (kCut (nz Z) n L) (kCut (nz Z) n Z) := by
  intro r
  by_cases e : r < n ∧ nz Z r = true
  · simp [kCut, e]
  · simp only [kCut, if_neg e]; exact h r
theorem rowOk_cutL {L Z : FR} (h : rowOk L Z) (n : Nat) : rowOk (kCut tt9 n L) (kCut tt9 n Z) := by
  intro r
  by_cases e : r < n ∧ tt9 r = true
  · simp [kCut, e]
  · simp only [kCut, if_neg e]; exact h r
theorem rowOk_mrk {L Z : FR} (h : rowOk L Z) (n : Nat) : rowOk L (kMrk 0 L n Z) := by
  intro r
  refine ⟨(h r).1, fun e => ?_⟩
  by_cases hr : r < n
  · simp only [kMrk, if_pos hr] at e
    by_cases h0 : L r = 0
    · rw [if_pos h0] at e; exact absurd rfl e
    · exact Classical.byContradiction fun z => h0 (i32_zero (h r).1 z)
  · simp only [kMrk, if_neg hr] at e; exact (h r).2 e
theorem inv_RmS {S : ST} (h : Inv S) {p : Nat} (hp : p < g_N S) : Inv (o_RmS S p) := inv_rows h hp (rowOk_cutS (h.2.1 p) 16)
theorem inv_RmL {S : ST} (h : Inv S) {p : Nat} (hp : p < g_N S) : Inv (o_RmL S p) := inv_rows h hp (rowOk_cutL (h.2.1 p) 16)
theorem inv_Down {S : ST} (h : Inv S) {p : Nat} (hp : p < g_N S) : Inv (o_Down S p) := inv_RmL (inv_tim h hp (fun _ => rfl) (fun z => absurd rfl z)) hp
theorem inv_ERes {S : ST} (h : Inv S) {p : Nat} (hp : p < g_N S) : Inv (o_ERes S p) := by
  have h1 := inv_RmS h hp
  have h2 := inv_tim (S := o_RmS S p) h1 (p := p) hp (a := g_St S p) (b := g_Rt S p) (c := 0) (h.2.2.2.1 p) (fun _ => rfl)
  have e1 : upd (g_St (o_RmS S p)) p (g_St S p) = g_St S := upd_id (g_St S) p
  have e2 : upd (g_Rt (o_RmS S p)) p (g_Rt S p) = g_Rt S := upd_id (g_Rt S) p
  rw [e1, e2] at h2
  exact h2
theorem inv_St {S : ST} (h : Inv S) {p : Nat} (hp : p < g_N S) {a : Int32} (ha : a = 1 ∨ g_Rt S p = 0) : Inv (s_St S (upd (g_St S) p a)) := by
  have h2 := inv_tim h hp (a := a) (b := g_Rt S p) (c := g_Sl S p) (fun n => ha.resolve_left n) (h.2.2.2.2.1 p)
  rw [upd_id, upd_id] at h2
  exact h2
theorem inv_Lose {S : ST} (h : Inv S) {p : Nat} (hp : p < g_N S) : Inv (o_Lose S p) := by
  unfold o_Lose
  split
  · exact inv_Down h hp
  · have h1 := inv_RmS (inv_St h hp (a := 1) (Or.inl rfl)) (p := p) hp
    have h2 : Inv (o_Mark (o_RmS (s_St S (upd (g_St S) p 1)) p) p) := inv_ssrow h1 hp (rowOk_mrk (h1.2.1 p) 16)
    have h3 := inv_tim h2 (p := p) hp (a := 1) (b := g_T1 S) (c := 0) (fun n => absurd rfl n) (fun _ => rfl)
    have e1 : upd (g_St (o_Mark (o_RmS (s_St S (upd (g_St S) p 1)) p) p)) p 1 = upd (g_St S) p 1 := upd_uu (g_St S) p 1 1
    rw [e1] at h3
    exact h3
theorem inv_Meet {S : ST} (h : Inv S) {p : Nat} (hp : p < g_N S) : Inv (o_Meet S p) := by
  unfold o_Meet
  split
  · exact inv_tim h hp (a := 0) (b := 0) (c := g_T2 S) (fun _ => rfl) (fun z => absurd rfl z)
  · rename_i e
    exact inv_St h hp (Or.inr (h.2.2.2.1 p e))
theorem inv_CDa {S : ST} (h : Inv S) {p : Nat} (hp : p < g_N S) : Inv (o_CDa S p).2 := by
  unfold o_CDa
  split
  · rename_i e
    split
    · exact inv_Down h hp
    · have hs : g_St S p = 1 := Classical.byContradiction fun z => i32_pos e (h.2.2.2.1 p z)
      have h2 := inv_tim h hp (a := g_St S p) (b := g_Rt S p - 1) (c := g_Sl S p) (fun n => absurd hs n) (fun _ => h.2.2.2.2.1 p (i32_pos e))
      rw [upd_id, upd_id] at h2
      exact h2
  · exact h
theorem inv_CDb {S : ST} (h : Inv S) {p : Nat} (hp : p < g_N S) : Inv (o_CDb S p).2 := by
  have key : ∀ c : Int32, 0 < g_Sl S p → Inv (s_Sl S (upd (g_Sl S) p c)) := fun c e => by
    have hrt : g_Rt S p = 0 := Classical.byContradiction fun z => i32_pos e (h.2.2.2.2.1 p z)
    have h2 := inv_tim h hp (a := g_St S p) (b := g_Rt S p) (c := c) (h.2.2.2.1 p) (fun z => absurd hrt z)
    rw [upd_id, upd_id] at h2
    exact h2
  unfold o_CDb
  split
  · rename_i e
    split
    · exact inv_RmS (key _ e) hp
    · exact key _ e
  · exact h
theorem inv_CD {S : ST} (h : Inv S) {p : Nat} (hp : p < g_N S) : Inv (o_CD S p).2 := inv_CDb (inv_CDa h hp) (by rw [o_CDa_N]; exact hp)
theorem inv_a1 {S : ST} (h : Inv S) {r : Nat} {hop len : Int32} (hl : hop = -6 ∨ 0 < len) {p : Nat} (hp : p < g_N S) : Inv (a_1 S r hop len p) := by
  unfold a_1
  have hr := h.2.1 p
  split
  · split
    · split
      · rename_i e
        refine inv_row h hp (fun q => ?_)
        by_cases hq : q = r
        · subst hq; rw [upd_s]; exact ⟨by decide, fun z => absurd e z⟩
        · rw [upd_n _ _ hq]; exact hr q
      · exact h
    · rename_i e
      have hlen : 0 < len := hl.resolve_left (fun z => e (Or.inl z))
      refine inv_rows h hp (fun q => ?_)
      by_cases hq : q = r
      · subst hq; rw [upd_s, upd_s]; exact ⟨Int32.le_of_lt hlen, fun _ => hlen⟩
      · rw [upd_n _ _ hq, upd_n _ _ hq]; exact hr q
  · exact h
theorem inv_ai {S : ST} (h : Inv S) {r : Nat} {hop len : Int32} (hl : hop = -6 ∨ 0 < len) {i : Nat} (hi : i ≤ g_N S) : Inv (a_i S r hop len i) := by
  induction i with
  | zero => exact h
  | succ i ih => exact inv_a1 (ih (by omega)) hl (by rw [a_i_N]; omega)
theorem inv_Ent {S : ST} (h : Inv S) (r : Nat) (hop : Int32) : Inv (o_Ent S r hop) := by
  obtain ⟨h1, h2, h3, h4, h5, h6, h7, h8⟩ := h
  refine ⟨h1, h2, h3, h4, h5, h6, h7, ?_⟩
  intro q
  show ¬ upd (g_Ho S) r hop q = -6 → upd (g_Hz S) r 0 q = upd (g_Hs S) r 0 q
  by_cases e : q = r
  · subst e; intro _; rw [upd_s, upd_s]
  · rw [upd_n _ _ e, upd_n _ _ e, upd_n _ _ e]; exact h8 q
theorem succ_pos {x : Int32} (h : 0 < x) (h20 : x ≤ 20) : 0 < x + 1 := by
  obtain ⟨j, hj, e⟩ := nI_of2 (M := 20) (n := 20) rfl (Int32.not_lt.mpr (Int32.le_of_lt h)) h20
  rw [e, nI_1]
  exact nI_lt (a := 0) (by omega) (by omega)
theorem best_len {S : ST} (h : Inv S) (r n : Nat) : (b_at S r n).1 = -6 ∨ 0 < (b_at S r n).2 + 1 := by
  rcases b_best S r n with e | ⟨j, -, -, e2, e3, -⟩
  · exact Or.inl e
  · right
    rw [e2]
    exact succ_pos e3 (h.2.2.1 j r).2
theorem inv_Sel {S : ST} (h : Inv S) (r : Nat) : Inv (o_Sel S r) := inv_ai (inv_Ent h r _) (best_len h r _) (Nat.le_refl _)
theorem inv_SA {S : ST} (h : Inv S) (i : Nat) : Inv (o_SA S i) := by
  induction i with
  | zero => exact h
  | succ i ih => exact inv_Sel ih i
theorem inv_ER {S : ST} (h : Inv S) {i : Nat} (hi : i ≤ g_N S) : Inv (o_ER S i) := by
  induction i with
  | zero => exact h
  | succ i ih =>
    simp only [o_ER]
    split
    · exact inv_ERes (ih (by omega)) (by rw [o_ER_N]; omega)
    · exact ih (by omega)
theorem inv_Df {S : ST} (h : Inv S) (v : Int32) : Inv (s_Df S v) := h
theorem inv_Dl {S : ST} (h : Inv S) {v : Int32} (hv : 0 ≤ v) : Inv (s_Dl S v) := by
  obtain ⟨h1, h2, h3, h4, h5, h6, h7, h8⟩ := h
  exact ⟨h1, h2, h3, h4, h5, ⟨hv, h6.2⟩, h7, h8⟩
theorem inv_E1 {S : ST} (h : Inv S) : Inv (s_Dl (s_Df S 0) 0) := inv_Dl (inv_Df h 0) (by decide)
theorem inv_E2 {S : ST} (h : Inv S) : Inv (o_SA (s_Dl (s_Df S 0) 0) 16) := inv_SA (inv_E1 h) 16
theorem E2_N (S : ST) : g_N (o_SA (s_Dl (s_Df S 0) 0) 16) = g_N S := o_SA_N _ 16
theorem inv_End {S : ST} (h : Inv S) : Inv (o_End S) := inv_ER (inv_E2 h) (by rw [E2_N]; exact Nat.le_refl _)
theorem inv_Chk {S : ST} (h : Inv S) : Inv (o_Chk S) := by
  unfold o_Chk
  split
  · exact h
  · split
    · exact inv_End h
    · exact h
theorem inv_CDs {S : ST} (h : Inv S) {i : Nat} (hi : i ≤ g_N S) : Inv (o_CDs S i).2 := by
  induction i with
  | zero => exact h
  | succ i ih => exact inv_CD (ih (by omega)) (by rw [o_CDs_N]; omega)
theorem pred_nn {x : Int32} (h : 0 < x) : 0 ≤ x - 1 := by
  obtain ⟨j, hj, e⟩ := nI_of (Int32.not_lt.mpr (Int32.le_of_lt h))
  subst e
  have h0 : 0 < j := by
    rcases Nat.eq_zero_or_pos j with z | z
    · subst z; exact absurd h (by decide)
    · exact z
  obtain ⟨i, rfl⟩ : ∃ i, j = i + 1 := ⟨j - 1, by omega⟩
  rw [nI_pred]
  exact nI_pos' (by omega)
theorem inv_Dl1 {S : ST} (h : Inv S) : Inv (o_Dl1 S) := by
  unfold o_Dl1
  split
  · rename_i e; exact inv_Dl h (pred_nn e)
  · exact h
theorem inv_Tk1 {S : ST} (h : Inv S) : Inv (o_Tk1 S).2 := inv_Chk (inv_Dl1 (inv_CDs h (Nat.le_refl _)))
theorem inv_Tk {S : ST} (h : Inv S) (j : Nat) : Inv (o_Tk S j).2 := by
  induction j with
  | zero => exact h
  | succ j ih => exact inv_Tk1 ih
theorem inv_hm {S : ST} (h : Inv S) {p : Nat} (hp : p < g_N S) (row : FR) : Inv (s_Hm S (va_up (g_Hm S) p row)) := by
  obtain ⟨h1, h2, h3, h4, h5, h6, h7, h8⟩ := h
  refine ⟨h1, h2, h3, h4, h5, h6, ?_, h8⟩
  intro q hq
  have e : q ≠ p := fun z => by
    have hq : g_N S ≤ q := hq
    omega
  obtain ⟨x1, x2, x3, x4⟩ := h7 q hq
  refine ⟨x1, x2, x3, fun t => ?_⟩
  show va_up (g_Hm S) p row q t = 0
  rw [va_up_ne _ _ e]; exact x4 t
theorem inv_Rs {S : ST} (h : Inv S) {i : Nat} (hi : i ≤ g_N S) : Inv (o_Rs S i).2 := by
  induction i with
  | zero => exact h
  | succ i ih =>
    have hN : i < g_N (o_Rs S i).2 := by rw [o_Rs_N]; omega
    simp only [o_Rs]
    split
    · exact inv_Lose (inv_hm (ih (by omega)) hN _) hN
    · exact inv_hm (ih (by omega)) hN _
theorem inv_FT {S : ST} (h : Inv S) (pv : Int32) : Inv (o_FT S pv) := by
  obtain ⟨h1, h2, h3, h4, h5, h6, h7, h8⟩ := h
  unfold o_FT
  split
  · refine ⟨h1, h2, h3, h4, h5, h6, h7, ?_⟩
    intro r
    show ¬ kSet (-6) 16 (g_Ho S) r = -6 → kMrk (-6) (kSet (-6) 16 (g_Ho S)) 16 (g_Hz S) r = g_Hs S r
    by_cases e : r < 16
    · intro n; exact absurd (by simp [kSet, e]) n
    · simp only [kSet, kMrk, if_neg e]; exact h8 r
  · refine ⟨h1, h2, h3, h4, h5, h6, h7, ?_⟩
    intro r
    show ¬ g_Ho S r = -6 → kMrk (-6) (g_Ho S) 16 (g_Hz S) r = kSet 1 16 (g_Hs S) r
    by_cases e : r < 16
    · intro n; simp only [kMrk, kSet, if_pos e, if_neg n]
    · simp only [kSet, kMrk, if_neg e]; exact h8 r
theorem inv_Rst {S : ST} (h : Inv S) (pv : Int32) : Inv (o_Rst S pv).2 := inv_Chk (inv_Dl (inv_Df (inv_FT (inv_Rs h (Nat.le_refl _)) pv) 1) h.2.2.2.2.2.1.2)
theorem inv_of {S : ST} (h : Inv S) {p r : Nat} (hp : p < g_N S) {v : Int32} (h0 : 0 ≤ v) (h20 : v ≤ 20) : Inv (s_Of S (va_up (g_Of S) p (upd (g_Of S p) r v))) := by
  obtain ⟨h1, h2, h3, h4, h5, h6, h7, h8⟩ := h
  refine ⟨h1, h2, ?_, h4, h5, h6, ?_, h8⟩
  · intro q z
    show 0 ≤ va_up (g_Of S) p (upd (g_Of S p) r v) q z ∧ va_up (g_Of S) p (upd (g_Of S p) r v) q z ≤ 20
    by_cases e : q = p
    · subst e
      rw [va_up_self]
      by_cases e2 : z = r
      · subst e2; rw [upd_s]; exact ⟨h0, h20⟩
      · rw [upd_n _ _ e2]; exact h3 q z
    · rw [va_up_ne _ _ e]; exact h3 q z
  · intro q hq
    have e : q ≠ p := fun z => by
      have hq : g_N S ≤ q := hq
      omega
    obtain ⟨a, b⟩ := h7 q hq
    refine ⟨fun z => ?_, b⟩
    show va_up (g_Of S) p (upd (g_Of S p) r v) q z = 0 ∧ g_Le S q z = 0 ∧ g_Ss S q z = 0
    rw [va_up_ne _ _ e]
    exact a z
theorem inv_Ofr {S : ST} (h : Inv S) {p r : Nat} (hp : p < g_N S) {v : Int32} (h0 : 0 ≤ v) (h20 : v ≤ 20) : Inv (u_Ofr S p r v) := by
  unfold u_Ofr
  split
  · exact inv_Sel (inv_of h hp h0 h20) r
  · exact inv_of h hp h0 h20
theorem inv_New {S : ST} (h : Inv S) (h5 : g_N S < 5) (g : Int32) : Inv (u_New S g) := by
  obtain ⟨h1, h2, h3, h4, h5', h6, h7, h8⟩ := h
  refine ⟨h5, h2, h3, ?_, h5', h6, ?_, h8⟩
  · intro q
    show ¬ upd (g_St S) (g_N S) 0 q = 1 → g_Rt S q = 0
    by_cases e : q = g_N S
    · subst e; intro _; exact (h7 _ (Nat.le_refl _)).2.1
    · rw [upd_n _ _ e]; exact h4 q
  · intro q hq
    have hq : g_N S + 1 ≤ q := hq
    exact h7 q (by omega)
end
section
set_option maxRecDepth 100000 in
set_option maxHeartbeats 4000000 in
theorem c_X0_knownOffer (l : Launch) (D : va_G) (cI cZ cP : ClassId) (ao af al az : Nat) (g : Int32) (F L Z : FR) (st rt sl mk : Int32) (k : Nat) (hk : k < 16) : MM l yX0_knownOffer wsX0_knownOffer ({ frames := 0, cells := 0, slots := 0, locals := 0 }) D (kTy cI cZ cP) [.ref ao, .int (nI k)] (pW cI cZ ao af al az g F L Z st rt sl mk) (some (.int (if st = 0 then F k else 0))) (pW cI cZ ao af al az g F L Z st rt sl mk) := by
  refine MM.ofW (cc := cX0_knownOffer) (maxL := 2) (ret := (some .int)) (by decide) rfl (Nat.le_of_ble_eq_true rfl) ?_
  intro p e s m below meth c ls A hx hb hr hlk hml hts hown hK hN hP hD hS hAe hl
  have hown : s.vm.findClass RX0 = some m.cls := hown
  have hi0 : ∀ w ∈ wsX00, w ∈ wsX0_knownOffer := fun w h => List.mem_cons_of_mem _ (List.mem_append_right _ h)
  have hl : lv_has ls 2 [(0, .ref ao), (1, .int (nI k))] := hl
  refine lv_aload_n hx hb dX0_knownOffer_0 rfl (lv_at hl 0 rfl) ?_
  refine va_get (D := D) (ci := 0) (v := .int st) (C := RX0) (T := TX0) (N := 8) hx hb hts hi0 hown hK hP 0 rfl rfl 4 (by decide) (hts (.fieldLink RX0 26 "GracefulRestart$Peer" "state" "I") (List.mem_of_getElem? (i := 1) rfl)) (fun _ h9 => h9) rfl dX0_knownOffer_1 ?_
  refine lv_if_ne (tgt := 16) hx hb dX0_knownOffer_4 (by decide) (fun c_4 => ?_) (fun c_4 => ?_)
  · refine lv_iconst (v := 0) hx hb dX0_knownOffer_16 (by decide) ?_
    exact k_iret hx hb hr hlk hP hS hAe (by simp [c_4]) rfl dX0_knownOffer_17
  · refine lv_aload_n hx hb dX0_knownOffer_7 rfl (lv_at hl 0 rfl) ?_
    refine va_get (D := D) (ci := 0) (v := .ref af) (C := RX0) (T := TX0) (N := 8) hx hb hts hi0 hown hK hP 0 rfl rfl 1 (by decide) (hts (.fieldLink RX0 15 "GracefulRestart$Peer" "offers" "[I") (List.mem_of_getElem? (i := 2) rfl)) (fun _ h9 => h9) rfl dX0_knownOffer_8 ?_
    refine lv_iload_n hx hb dX0_knownOffer_11 rfl (lv_at hl 1 rfl) ?_
    refine k_iald (k := k) hx hb hK hP 1 0 rfl rfl rfl (by omega) (by decide) dX0_knownOffer_12 ?_
    refine lv_goto (tgt := 17) hx hb dX0_knownOffer_13 (by decide) ?_
    exact k_iret hx hb hr hlk hP hS hAe (by simp [c_4]) rfl dX0_knownOffer_17

set_option maxRecDepth 100000 in
set_option maxHeartbeats 4000000 in
theorem c_X0_countOffers (l : Launch) (D : va_G) (cI cZ cP : ClassId) (ao af al az : Nat) (g : Int32) (F L Z : FR) (st rt sl mk : Int32) : MM l yX0_countOffers wsX0_countOffers ({ frames := 0, cells := 0, slots := 0, locals := 0 }) D (kTy cI cZ cP) [.ref ao] (pW cI cZ ao af al az g F L Z st rt sl mk) (some (.int (kCnt (pz F) 16))) (pW cI cZ ao af al az g F L Z st rt sl mk) := by
  refine MM.ofW (cc := cX0_countOffers) (maxL := 6) (ret := (some .int)) (by decide) rfl (Nat.le_of_ble_eq_true rfl) ?_
  intro p e s m below meth c ls A hx hb hr hlk hml hts hown hK hN hP hD hS hAe hl
  have hown : s.vm.findClass RX0 = some m.cls := hown
  have hi0 : ∀ w ∈ wsX00, w ∈ wsX0_countOffers := fun w h => List.mem_cons_of_mem _ (List.mem_append_right _ h)
  have hl : lv_has ls 6 [(0, .ref ao)] := hl
  refine lv_iconst (v := 0) hx hb dX0_countOffers_0 (by decide) ?_
  refine lv_istore_n (lv' := [(1, .int 0), (0, .ref ao)]) hx hb dX0_countOffers_1 rfl hl (by decide) rfl (fun ls hl => ?_)
  refine lv_aload_n hx hb dX0_countOffers_2 rfl (lv_at hl 1 rfl) ?_
  refine va_get (D := D) (ci := 0) (v := .ref af) (C := RX0) (T := TX0) (N := 8) hx hb hts hi0 hown hK hP 0 rfl rfl 1 (by decide) (hts (.fieldLink RX0 15 "GracefulRestart$Peer" "offers" "[I") (List.mem_of_getElem? (i := 1) rfl)) (fun _ h9 => h9) rfl dX0_countOffers_3 ?_
  refine lv_astore_n (lv' := [(2, .ref af), (1, .int 0), (0, .ref ao)]) hx hb dX0_countOffers_6 rfl hl (by decide) rfl (fun ls hl => ?_)
  refine lv_aload_n hx hb dX0_countOffers_7 rfl (lv_at hl 0 rfl) ?_
  refine va_alen (v := 16) hx hb hK hP 1 0 rfl rfl rfl dX0_countOffers_8 ?_
  refine lv_istore_n (lv' := [(3, .int 16), (2, .ref af), (1, .int 0), (0, .ref ao)]) hx hb dX0_countOffers_9 rfl hl (by decide) rfl (fun ls hl => ?_)
  refine lv_iconst (v := 0) hx hb dX0_countOffers_10 (by decide) ?_
  refine lv_istore (lv' := [(4, .int 0), (3, .int 16), (2, .ref af), (1, .int 0), (0, .ref ao)]) hx hb dX0_countOffers_11 hl (by decide) rfl (fun ls hl => ?_)
  have lp13 : ∀ (n9 i : Nat), i + n9 = 16 → ∀ (H : Heap) (locs : List Loc) (ls : Array Slot), va_P D vwCl (pW cI cZ ao af al az g F L Z st rt sl mk) H → va_D A (pW cI cZ ao af al az g F L Z st rt sl mk) → va_S A s.heap H locs → lv_has ls 6 [(0, .ref ao), (1, .int (kCnt (pz F) i)), (2, .ref af), (3, .int 16), (4, .int (nI i))] → W p l e (headSpec wsX0_countOffers ({ frames := 0, cells := 0, slots := 0, locals := 0 })).room s m ([.ref ao] : List Value).toArray below meth c H locs 0 0 (MQ below (kPost D (pW cI cZ ao af al az g F L Z st rt sl mk) (pW cI cZ ao af al az g F L Z st rt sl mk) (some (.int (kCnt (pz F) 16)))) ([.ref ao] : List Value).toArray s 0 0 (kA (pW cI cZ ao af al az g F L Z st rt sl mk))) (F0 m 13 ls []) := by
    intro n9
    induction n9 with
    | zero =>
      intro i hi9 H locs ls hP hD hS hl
      have hi8 : i = 16 := by omega
      subst hi8
      refine lv_iload hx hb dX0_countOffers_13 (lv_at hl 4 rfl) ?_
      refine lv_iload_n hx hb dX0_countOffers_15 rfl (lv_at hl 3 rfl) ?_
      refine lv_icmp_ge (tgt := 39) hx hb dX0_countOffers_16 (by decide) (fun _ => ?_) (fun c_ => absurd (by decide) c_)
      refine lv_iload_n hx hb dX0_countOffers_39 rfl (lv_at hl 1 rfl) ?_
      exact k_iret hx hb hr hlk hP hS hAe rfl rfl dX0_countOffers_40
    | succ n9 ih =>
      intro i hi9 H locs ls hP hD hS hl
      have hlt : i < 16 := by omega
      refine lv_iload hx hb dX0_countOffers_13 (lv_at hl 4 rfl) ?_
      refine lv_iload_n hx hb dX0_countOffers_15 rfl (lv_at hl 3 rfl) ?_
      refine lv_icmp_ge (tgt := 39) hx hb dX0_countOffers_16 (by decide) (fun c_ => absurd c_ (nI_ge (a := i) (b := 16) hlt (by decide))) (fun _ => ?_)
      refine lv_aload_n hx hb dX0_countOffers_19 rfl (lv_at hl 2 rfl) ?_
      refine lv_iload hx hb dX0_countOffers_20 (lv_at hl 4 rfl) ?_
      refine k_iald (k := i) hx hb hK hP 1 0 rfl rfl rfl (by omega) (by decide) dX0_countOffers_22 ?_
      refine lv_istore (lv' := [(5, .int (F i)), (0, .ref ao), (1, .int (kCnt (pz F) i)), (2, .ref af), (3, .int 16), (4, .int (nI i))]) hx hb dX0_countOffers_23 hl (by decide) rfl (fun ls hl => ?_)
      refine lv_iload hx hb dX0_countOffers_25 (lv_at hl 0 rfl) ?_
      refine lv_if_le (tgt := 33) hx hb dX0_countOffers_27 (by decide) (fun c_27 => ?_) (fun c_27 => ?_)
      · refine lv_iinc (v := nI (i + 1)) (lv' := [(4, .int (nI (i + 1))), (5, .int (F i)), (0, .ref ao), (1, .int (kCnt (pz F) i)), (2, .ref af), (3, .int 16)]) hx hb dX0_countOffers_33 hl (k := 5) rfl (nI_1 i) (by decide) rfl (fun ls hl => ?_)
        refine lv_goto (tgt := 13) hx hb dX0_countOffers_36 (by decide) ?_
        rw [kCnt_f (pz_f (by rw [Int32.not_lt]; exact c_27))] at hl
        exact ih (i + 1) (by omega) _ _ ls hP hD hS (lv_sub hl [2, 3, 4, 5, 0] rfl)
      · refine lv_iinc (v := kCnt (pz F) (i + 1)) (lv' := [(1, .int (kCnt (pz F) (i + 1))), (5, .int (F i)), (0, .ref ao), (2, .ref af), (3, .int 16), (4, .int (nI i))]) hx hb dX0_countOffers_30 hl (k := 2) rfl (kCnt_t (pz_t (Int32.not_le.mp c_27))) (by decide) rfl (fun ls hl => ?_)
        refine lv_iinc (v := nI (i + 1)) (lv' := [(4, .int (nI (i + 1))), (1, .int (kCnt (pz F) (i + 1))), (5, .int (F i)), (0, .ref ao), (2, .ref af), (3, .int 16)]) hx hb dX0_countOffers_33 hl (k := 5) rfl (nI_1 i) (by decide) rfl (fun ls hl => ?_)
        refine lv_goto (tgt := 13) hx hb dX0_countOffers_36 (by decide) ?_
        exact ih (i + 1) (by omega) _ _ ls hP hD hS (lv_sub hl [3, 1, 4, 5, 0] rfl)
  exact lp13 16 0 (by omega) _ _ ls hP hD hS (lv_sub hl [4, 3, 2, 1, 0] rfl)

set_option maxRecDepth 100000 in
set_option maxHeartbeats 4000000 in
theorem c_X0_isAwaited (l : Launch) (D : va_G) (cI cZ cP : ClassId) (ao af al az : Nat) (g : Int32) (F L Z : FR) (st rt sl mk : Int32) : MM l yX0_isAwaited wsX0_isAwaited ({ frames := 0, cells := 0, slots := 0, locals := 0 }) D (kTy cI cZ cP) [.ref ao] (pW cI cZ ao af al az g F L Z st rt sl mk) (some (.int (if g = 0 then 0 else if st = 2 then 0 else if mk = 3 then 0 else 1))) (pW cI cZ ao af al az g F L Z st rt sl mk) := by
  refine MM.ofW (cc := cX0_isAwaited) (maxL := 1) (ret := (some .boolean)) (by decide) rfl (Nat.le_of_ble_eq_true rfl) ?_
  intro p e s m below meth c ls A hx hb hr hlk hml hts hown hK hN hP hD hS hAe hl
  have hown : s.vm.findClass RX0 = some m.cls := hown
  have hi0 : ∀ w ∈ wsX00, w ∈ wsX0_isAwaited := fun w h => List.mem_cons_of_mem _ (List.mem_append_right _ h)
  have hl : lv_has ls 1 [(0, .ref ao)] := hl
  refine lv_aload_n hx hb dX0_isAwaited_0 rfl (lv_at hl 0 rfl) ?_
  refine va_get (D := D) (ci := 0) (v := .int g) (C := RX0) (T := TX0) (N := 8) hx hb hts hi0 hown hK hP 0 rfl rfl 0 (by decide) (hts (.fieldLink RX0 9 "GracefulRestart$Peer" "graceful" "Z") (List.mem_of_getElem? (i := 1) rfl)) (fun _ h9 => h9) rfl dX0_isAwaited_1 ?_
  refine lv_if_eq (tgt := 27) hx hb dX0_isAwaited_4 (by decide) (fun c_4 => ?_) (fun c_4 => ?_)
  · refine lv_iconst (v := 0) hx hb dX0_isAwaited_27 (by decide) ?_
    exact k_zret hx hb hr hlk hP hS hAe rfl (by simp [c_4]) rfl dX0_isAwaited_28
  · refine lv_aload_n hx hb dX0_isAwaited_7 rfl (lv_at hl 0 rfl) ?_
    refine va_get (D := D) (ci := 0) (v := .int st) (C := RX0) (T := TX0) (N := 8) hx hb hts hi0 hown hK hP 0 rfl rfl 4 (by decide) (hts (.fieldLink RX0 26 "GracefulRestart$Peer" "state" "I") (List.mem_of_getElem? (i := 2) rfl)) (fun _ h9 => h9) rfl dX0_isAwaited_8 ?_
    refine lv_iconst (v := 2) hx hb dX0_isAwaited_11 (by decide) ?_
    refine lv_icmp_eq (tgt := 27) hx hb dX0_isAwaited_12 (by decide) (fun c_12 => ?_) (fun c_12 => ?_)
    · refine lv_iconst (v := 0) hx hb dX0_isAwaited_27 (by decide) ?_
      exact k_zret hx hb hr hlk hP hS hAe rfl (by simp [c_4, c_12]) rfl dX0_isAwaited_28
    · refine lv_aload_n hx hb dX0_isAwaited_15 rfl (lv_at hl 0 rfl) ?_
      refine va_get (D := D) (ci := 0) (v := .int mk) (C := RX0) (T := TX0) (N := 8) hx hb hts hi0 hown hK hP 0 rfl rfl 7 (by decide) (hts (.fieldLink RX0 36 "GracefulRestart$Peer" "marks" "I") (List.mem_of_getElem? (i := 3) rfl)) (fun _ h9 => h9) rfl dX0_isAwaited_16 ?_
      refine lv_iconst (v := 3) hx hb dX0_isAwaited_19 (by decide) ?_
      refine lv_icmp_eq (tgt := 27) hx hb dX0_isAwaited_20 (by decide) (fun c_20 => ?_) (fun c_20 => ?_)
      · refine lv_iconst (v := 0) hx hb dX0_isAwaited_27 (by decide) ?_
        exact k_zret hx hb hr hlk hP hS hAe rfl (by simp [c_4, c_12, c_20]) rfl dX0_isAwaited_28
      · refine lv_iconst (v := 1) hx hb dX0_isAwaited_23 (by decide) ?_
        refine lv_goto (tgt := 28) hx hb dX0_isAwaited_24 (by decide) ?_
        exact k_zret hx hb hr hlk hP hS hAe rfl (by simp [c_4, c_12, c_20]) rfl dX0_isAwaited_28

set_option maxRecDepth 100000 in
set_option maxHeartbeats 4000000 in
theorem c_X0_learn (l : Launch) (D : va_G) (cI cZ cP : ClassId) (ao af al az : Nat) (g : Int32) (F L Z : FR) (st rt sl mk : Int32) (k : Nat) (x : Int32) (hk : k < 16) : MM l yX0_learn wsX0_learn ({ frames := 0, cells := 0, slots := 0, locals := 0 }) D (kTy cI cZ cP) [.ref ao, .int (nI k), .int x] (pW cI cZ ao af al az g F L Z st rt sl mk) (none) (pW cI cZ ao af al az g F (upd L k x) (upd Z k 0) st rt sl mk) := by
  refine MM.ofW (cc := cX0_learn) (maxL := 3) (ret := none) (by decide) rfl (Nat.le_of_ble_eq_true rfl) ?_
  intro p e s m below meth c ls A hx hb hr hlk hml hts hown hK hN hP hD hS hAe hl
  have hown : s.vm.findClass RX0 = some m.cls := hown
  have hi0 : ∀ w ∈ wsX00, w ∈ wsX0_learn := fun w h => List.mem_cons_of_mem _ (List.mem_append_right _ h)
  have hl : lv_has ls 3 [(0, .ref ao), (1, .int (nI k)), (2, .int x)] := hl
  refine lv_aload_n hx hb dX0_learn_0 rfl (lv_at hl 0 rfl) ?_
  refine va_get (D := D) (ci := 0) (v := .ref al) (C := RX0) (T := TX0) (N := 8) hx hb hts hi0 hown hK hP 0 rfl rfl 2 (by decide) (hts (.fieldLink RX0 19 "GracefulRestart$Peer" "learned" "[I") (List.mem_of_getElem? (i := 1) rfl)) (fun _ h9 => h9) rfl dX0_learn_1 ?_
  refine lv_iload_n hx hb dX0_learn_4 rfl (lv_at hl 1 rfl) ?_
  refine lv_iload_n hx hb dX0_learn_5 rfl (lv_at hl 2 rfl) ?_
  refine k_iast (k := k) hx hb hK hP hD hS 2 0 rfl rfl rfl (by omega) (by decide) (W1 := (pW cI cZ ao af al az g F (upd L k x) Z st rt sl mk)) rfl dX0_learn_6 (fun H locs hP hD hS => ?_)
  refine lv_aload_n hx hb dX0_learn_7 rfl (lv_at hl 0 rfl) ?_
  refine va_get (D := D) (ci := 0) (v := .ref az) (C := RX0) (T := TX0) (N := 8) hx hb hts hi0 hown hK hP 0 rfl rfl 3 (by decide) (hts (.fieldLink RX0 22 "GracefulRestart$Peer" "staleLearned" "[Z") (List.mem_of_getElem? (i := 2) rfl)) (fun _ h9 => h9) rfl dX0_learn_8 ?_
  refine lv_iload_n hx hb dX0_learn_11 rfl (lv_at hl 1 rfl) ?_
  refine lv_iconst (v := 0) hx hb dX0_learn_12 (by decide) ?_
  refine k_zast (k := k) hx hb hK hP hD hS 3 1 rfl rfl rfl (by omega) (by decide) (by decide) (W1 := (pW cI cZ ao af al az g F (upd L k x) (upd Z k 0) st rt sl mk)) rfl dX0_learn_13 (fun H locs hP hD hS => ?_)
  exact k_vret hx hb hr hlk hP hS hAe rfl dX0_learn_14

set_option maxRecDepth 100000 in
set_option maxHeartbeats 4000000 in
theorem c_X0_hearNothing (l : Launch) (D : va_G) (cI cZ cP : ClassId) (ao af al az : Nat) (g : Int32) (F L Z : FR) (st rt sl mk : Int32) (k : Nat) (hk : k < 16) : MM l yX0_hearNothing wsX0_hearNothing ({ frames := 0, cells := 0, slots := 0, locals := 0 }) D (kTy cI cZ cP) [.ref ao, .int (nI k)] (pW cI cZ ao af al az g F L Z st rt sl mk) (none) (pW cI cZ ao af al az g F (if Z k = 0 then upd L k 0 else L) Z st rt sl mk) := by
  refine MM.ofW (cc := cX0_hearNothing) (maxL := 2) (ret := none) (by decide) rfl (Nat.le_of_ble_eq_true rfl) ?_
  intro p e s m below meth c ls A hx hb hr hlk hml hts hown hK hN hP hD hS hAe hl
  have hown : s.vm.findClass RX0 = some m.cls := hown
  have hi0 : ∀ w ∈ wsX00, w ∈ wsX0_hearNothing := fun w h => List.mem_cons_of_mem _ (List.mem_append_right _ h)
  have hl : lv_has ls 2 [(0, .ref ao), (1, .int (nI k))] := hl
  refine lv_aload_n hx hb dX0_hearNothing_0 rfl (lv_at hl 0 rfl) ?_
  refine va_get (D := D) (ci := 0) (v := .ref az) (C := RX0) (T := TX0) (N := 8) hx hb hts hi0 hown hK hP 0 rfl rfl 3 (by decide) (hts (.fieldLink RX0 22 "GracefulRestart$Peer" "staleLearned" "[Z") (List.mem_of_getElem? (i := 1) rfl)) (fun _ h9 => h9) rfl dX0_hearNothing_1 ?_
  refine lv_iload_n hx hb dX0_hearNothing_4 rfl (lv_at hl 1 rfl) ?_
  refine k_zald (k := k) hx hb hK hP 3 1 rfl rfl rfl (by omega) (by decide) dX0_hearNothing_5 ?_
  refine lv_if_ne (tgt := 16) hx hb dX0_hearNothing_6 (by decide) (fun c_6 => ?_) (fun c_6 => ?_)
  · exact k_vret hx hb hr hlk hP hS hAe (by simp [c_6]) dX0_hearNothing_16
  · refine lv_aload_n hx hb dX0_hearNothing_9 rfl (lv_at hl 0 rfl) ?_
    refine va_get (D := D) (ci := 0) (v := .ref al) (C := RX0) (T := TX0) (N := 8) hx hb hts hi0 hown hK hP 0 rfl rfl 2 (by decide) (hts (.fieldLink RX0 19 "GracefulRestart$Peer" "learned" "[I") (List.mem_of_getElem? (i := 2) rfl)) (fun _ h9 => h9) rfl dX0_hearNothing_10 ?_
    refine lv_iload_n hx hb dX0_hearNothing_13 rfl (lv_at hl 1 rfl) ?_
    refine lv_iconst (v := 0) hx hb dX0_hearNothing_14 (by decide) ?_
    refine k_iast (k := k) hx hb hK hP hD hS 2 0 rfl rfl rfl (by omega) (by decide) (W1 := (pW cI cZ ao af al az g F (upd L k 0) Z st rt sl mk)) rfl dX0_hearNothing_15 (fun H locs hP hD hS => ?_)
    exact k_vret hx hb hr hlk hP hS hAe (by simp [c_6]) dX0_hearNothing_16

set_option maxRecDepth 100000 in
set_option maxHeartbeats 4000000 in
theorem c_X0_removeLearned (l : Launch) (D : va_G) (cI cZ cP : ClassId) (ao af al az : Nat) (g : Int32) (F L Z : FR) (st rt sl mk : Int32) : MM l yX0_removeLearned wsX0_removeLearned ({ frames := 0, cells := 0, slots := 0, locals := 0 }) D (kTy cI cZ cP) [.ref ao] (pW cI cZ ao af al az g F L Z st rt sl mk) (some (.int (kCnt (nz L) 16))) (pW cI cZ ao af al az g F (kCut tt9 16 L) (kCut tt9 16 Z) st rt sl mk) := by
  refine MM.ofW (cc := cX0_removeLearned) (maxL := 3) (ret := (some .int)) (by decide) rfl (Nat.le_of_ble_eq_true rfl) ?_
  intro p e s m below meth c ls A hx hb hr hlk hml hts hown hK hN hP hD hS hAe hl
  have hown : s.vm.findClass RX0 = some m.cls := hown
  have hi0 : ∀ w ∈ wsX00, w ∈ wsX0_removeLearned := fun w h => List.mem_cons_of_mem _ (List.mem_append_right _ h)
  have hl : lv_has ls 3 [(0, .ref ao)] := hl
  refine lv_iconst (v := 0) hx hb dX0_removeLearned_0 (by decide) ?_
  refine lv_istore_n (lv' := [(1, .int 0), (0, .ref ao)]) hx hb dX0_removeLearned_1 rfl hl (by decide) rfl (fun ls hl => ?_)
  refine lv_iconst (v := 0) hx hb dX0_removeLearned_2 (by decide) ?_
  refine lv_istore_n (lv' := [(2, .int 0), (1, .int 0), (0, .ref ao)]) hx hb dX0_removeLearned_3 rfl hl (by decide) rfl (fun ls hl => ?_)
  have lp4 : ∀ (n9 i : Nat), i + n9 = 16 → ∀ (H : Heap) (locs : List Loc) (ls : Array Slot), va_P D vwCl (pW cI cZ ao af al az g F (kCut tt9 i L) (kCut tt9 i Z) st rt sl mk) H → va_D A (pW cI cZ ao af al az g F (kCut tt9 i L) (kCut tt9 i Z) st rt sl mk) → va_S A s.heap H locs → lv_has ls 3 [(0, .ref ao), (1, .int (kCnt (nz L) i)), (2, .int (nI i))] → W p l e (headSpec wsX0_removeLearned ({ frames := 0, cells := 0, slots := 0, locals := 0 })).room s m ([.ref ao] : List Value).toArray below meth c H locs 0 0 (MQ below (kPost D (pW cI cZ ao af al az g F L Z st rt sl mk) (pW cI cZ ao af al az g F (kCut tt9 16 L) (kCut tt9 16 Z) st rt sl mk) (some (.int (kCnt (nz L) 16)))) ([.ref ao] : List Value).toArray s 0 0 (kA (pW cI cZ ao af al az g F L Z st rt sl mk))) (F0 m 4 ls []) := by
    intro n9
    induction n9 with
    | zero =>
      intro i hi9 H locs ls hP hD hS hl
      have hi8 : i = 16 := by omega
      subst hi8
      refine lv_iload_n hx hb dX0_removeLearned_4 rfl (lv_at hl 2 rfl) ?_
      refine lv_bipush (v := 16) hx hb dX0_removeLearned_5 (by decide) ?_
      refine lv_icmp_ge (tgt := 42) hx hb dX0_removeLearned_7 (by decide) (fun _ => ?_) (fun c_ => absurd (by decide) c_)
      refine lv_iload_n hx hb dX0_removeLearned_42 rfl (lv_at hl 1 rfl) ?_
      exact k_iret hx hb hr hlk hP hS hAe rfl rfl dX0_removeLearned_43
    | succ n9 ih =>
      intro i hi9 H locs ls hP hD hS hl
      have hlt : i < 16 := by omega
      refine lv_iload_n hx hb dX0_removeLearned_4 rfl (lv_at hl 2 rfl) ?_
      refine lv_bipush (v := 16) hx hb dX0_removeLearned_5 (by decide) ?_
      refine lv_icmp_ge (tgt := 42) hx hb dX0_removeLearned_7 (by decide) (fun c_ => absurd c_ (nI_ge (a := i) (b := 16) hlt (by decide))) (fun _ => ?_)
      refine lv_aload_n hx hb dX0_removeLearned_10 rfl (lv_at hl 0 rfl) ?_
      refine va_get (D := D) (ci := 0) (v := .ref al) (C := RX0) (T := TX0) (N := 8) hx hb hts hi0 hown hK hP 0 rfl rfl 2 (by decide) (hts (.fieldLink RX0 19 "GracefulRestart$Peer" "learned" "[I") (List.mem_of_getElem? (i := 1) rfl)) (fun _ h9 => h9) rfl dX0_removeLearned_11 ?_
      refine lv_iload_n hx hb dX0_removeLearned_14 rfl (lv_at hl 2 rfl) ?_
      refine k_iald (k := i) hx hb hK hP 2 0 rfl rfl rfl (by omega) (by decide) dX0_removeLearned_15 ?_
      refine k_top (y := L i) (kCut_at _ _ _) ?_
      refine lv_if_eq (tgt := 22) hx hb dX0_removeLearned_16 (by decide) (fun c_16 => ?_) (fun c_16 => ?_)
      · refine lv_aload_n hx hb dX0_removeLearned_22 rfl (lv_at hl 0 rfl) ?_
        refine va_get (D := D) (ci := 0) (v := .ref al) (C := RX0) (T := TX0) (N := 8) hx hb hts hi0 hown hK hP 0 rfl rfl 2 (by decide) (hts (.fieldLink RX0 19 "GracefulRestart$Peer" "learned" "[I") (List.mem_of_getElem? (i := 1) rfl)) (fun _ h9 => h9) rfl dX0_removeLearned_23 ?_
        refine lv_iload_n hx hb dX0_removeLearned_26 rfl (lv_at hl 2 rfl) ?_
        refine lv_iconst (v := 0) hx hb dX0_removeLearned_27 (by decide) ?_
        refine k_iast (k := i) hx hb hK hP hD hS 2 0 rfl rfl rfl (by omega) (by decide) (W1 := (pW cI cZ ao af al az g F (upd (kCut tt9 i L) i 0) (kCut tt9 i Z) st rt sl mk)) rfl dX0_removeLearned_28 (fun H locs hP hD hS => ?_)
        refine lv_aload_n hx hb dX0_removeLearned_29 rfl (lv_at hl 0 rfl) ?_
        refine va_get (D := D) (ci := 0) (v := .ref az) (C := RX0) (T := TX0) (N := 8) hx hb hts hi0 hown hK hP 0 rfl rfl 3 (by decide) (hts (.fieldLink RX0 22 "GracefulRestart$Peer" "staleLearned" "[Z") (List.mem_of_getElem? (i := 2) rfl)) (fun _ h9 => h9) rfl dX0_removeLearned_30 ?_
        refine lv_iload_n hx hb dX0_removeLearned_33 rfl (lv_at hl 2 rfl) ?_
        refine lv_iconst (v := 0) hx hb dX0_removeLearned_34 (by decide) ?_
        refine k_zast (k := i) hx hb hK hP hD hS 3 1 rfl rfl rfl (by omega) (by decide) (by decide) (W1 := (pW cI cZ ao af al az g F (upd (kCut tt9 i L) i 0) (upd (kCut tt9 i Z) i 0) st rt sl mk)) rfl dX0_removeLearned_35 (fun H locs hP hD hS => ?_)
        refine lv_iinc (v := nI (i + 1)) (lv' := [(2, .int (nI (i + 1))), (0, .ref ao), (1, .int (kCnt (nz L) i))]) hx hb dX0_removeLearned_36 hl (k := 2) rfl (nI_1 i) (by decide) rfl (fun ls hl => ?_)
        refine lv_goto (tgt := 4) hx hb dX0_removeLearned_39 (by decide) ?_
        rw [kCut_t (P := tt9) L rfl, kCut_t (P := tt9) Z rfl] at hP hD
        rw [kCnt_f (nz_f c_16)] at hl
        exact ih (i + 1) (by omega) _ _ ls hP hD hS (lv_sub hl [1, 2, 0] rfl)
      · refine lv_iinc (v := kCnt (nz L) (i + 1)) (lv' := [(1, .int (kCnt (nz L) (i + 1))), (0, .ref ao), (2, .int (nI i))]) hx hb dX0_removeLearned_19 hl (k := 1) rfl (kCnt_t (nz_t c_16)) (by decide) rfl (fun ls hl => ?_)
        refine lv_aload_n hx hb dX0_removeLearned_22 rfl (lv_at hl 1 rfl) ?_
        refine va_get (D := D) (ci := 0) (v := .ref al) (C := RX0) (T := TX0) (N := 8) hx hb hts hi0 hown hK hP 0 rfl rfl 2 (by decide) (hts (.fieldLink RX0 19 "GracefulRestart$Peer" "learned" "[I") (List.mem_of_getElem? (i := 1) rfl)) (fun _ h9 => h9) rfl dX0_removeLearned_23 ?_
        refine lv_iload_n hx hb dX0_removeLearned_26 rfl (lv_at hl 2 rfl) ?_
        refine lv_iconst (v := 0) hx hb dX0_removeLearned_27 (by decide) ?_
        refine k_iast (k := i) hx hb hK hP hD hS 2 0 rfl rfl rfl (by omega) (by decide) (W1 := (pW cI cZ ao af al az g F (upd (kCut tt9 i L) i 0) (kCut tt9 i Z) st rt sl mk)) rfl dX0_removeLearned_28 (fun H locs hP hD hS => ?_)
        refine lv_aload_n hx hb dX0_removeLearned_29 rfl (lv_at hl 1 rfl) ?_
        refine va_get (D := D) (ci := 0) (v := .ref az) (C := RX0) (T := TX0) (N := 8) hx hb hts hi0 hown hK hP 0 rfl rfl 3 (by decide) (hts (.fieldLink RX0 22 "GracefulRestart$Peer" "staleLearned" "[Z") (List.mem_of_getElem? (i := 2) rfl)) (fun _ h9 => h9) rfl dX0_removeLearned_30 ?_
        refine lv_iload_n hx hb dX0_removeLearned_33 rfl (lv_at hl 2 rfl) ?_
        refine lv_iconst (v := 0) hx hb dX0_removeLearned_34 (by decide) ?_
        refine k_zast (k := i) hx hb hK hP hD hS 3 1 rfl rfl rfl (by omega) (by decide) (by decide) (W1 := (pW cI cZ ao af al az g F (upd (kCut tt9 i L) i 0) (upd (kCut tt9 i Z) i 0) st rt sl mk)) rfl dX0_removeLearned_35 (fun H locs hP hD hS => ?_)
        refine lv_iinc (v := nI (i + 1)) (lv' := [(2, .int (nI (i + 1))), (1, .int (kCnt (nz L) (i + 1))), (0, .ref ao)]) hx hb dX0_removeLearned_36 hl (k := 2) rfl (nI_1 i) (by decide) rfl (fun ls hl => ?_)
        refine lv_goto (tgt := 4) hx hb dX0_removeLearned_39 (by decide) ?_
        rw [kCut_t (P := tt9) L rfl, kCut_t (P := tt9) Z rfl] at hP hD
        exact ih (i + 1) (by omega) _ _ ls hP hD hS (lv_sub hl [2, 1, 0] rfl)
  rw [← kCut_0 tt9 L, ← kCut_0 tt9 Z] at hP hD
  exact lp4 16 0 (by omega) _ _ ls hP hD hS (lv_sub hl [2, 1, 0] rfl)

set_option maxRecDepth 100000 in
set_option maxHeartbeats 4000000 in
theorem c_X0_removeStale (l : Launch) (D : va_G) (cI cZ cP : ClassId) (ao af al az : Nat) (g : Int32) (F L Z : FR) (st rt sl mk : Int32) : MM l yX0_removeStale wsX0_removeStale ({ frames := 0, cells := 0, slots := 0, locals := 0 }) D (kTy cI cZ cP) [.ref ao] (pW cI cZ ao af al az g F L Z st rt sl mk) (some (.int (kCnt (nz Z) 16))) (pW cI cZ ao af al az g F (kCut (nz Z) 16 L) (kCut (nz Z) 16 Z) st rt sl mk) := by
  refine MM.ofW (cc := cX0_removeStale) (maxL := 3) (ret := (some .int)) (by decide) rfl (Nat.le_of_ble_eq_true rfl) ?_
  intro p e s m below meth c ls A hx hb hr hlk hml hts hown hK hN hP hD hS hAe hl
  have hown : s.vm.findClass RX0 = some m.cls := hown
  have hi0 : ∀ w ∈ wsX00, w ∈ wsX0_removeStale := fun w h => List.mem_cons_of_mem _ (List.mem_append_right _ h)
  have hl : lv_has ls 3 [(0, .ref ao)] := hl
  refine lv_iconst (v := 0) hx hb dX0_removeStale_0 (by decide) ?_
  refine lv_istore_n (lv' := [(1, .int 0), (0, .ref ao)]) hx hb dX0_removeStale_1 rfl hl (by decide) rfl (fun ls hl => ?_)
  refine lv_iconst (v := 0) hx hb dX0_removeStale_2 (by decide) ?_
  refine lv_istore_n (lv' := [(2, .int 0), (1, .int 0), (0, .ref ao)]) hx hb dX0_removeStale_3 rfl hl (by decide) rfl (fun ls hl => ?_)
  have lp4 : ∀ (n9 i : Nat), i + n9 = 16 → ∀ (H : Heap) (locs : List Loc) (ls : Array Slot), va_P D vwCl (pW cI cZ ao af al az g F (kCut (nz Z) i L) (kCut (nz Z) i Z) st rt sl mk) H → va_D A (pW cI cZ ao af al az g F (kCut (nz Z) i L) (kCut (nz Z) i Z) st rt sl mk) → va_S A s.heap H locs → lv_has ls 3 [(0, .ref ao), (1, .int (kCnt (nz Z) i)), (2, .int (nI i))] → W p l e (headSpec wsX0_removeStale ({ frames := 0, cells := 0, slots := 0, locals := 0 })).room s m ([.ref ao] : List Value).toArray below meth c H locs 0 0 (MQ below (kPost D (pW cI cZ ao af al az g F L Z st rt sl mk) (pW cI cZ ao af al az g F (kCut (nz Z) 16 L) (kCut (nz Z) 16 Z) st rt sl mk) (some (.int (kCnt (nz Z) 16)))) ([.ref ao] : List Value).toArray s 0 0 (kA (pW cI cZ ao af al az g F L Z st rt sl mk))) (F0 m 4 ls []) := by
    intro n9
    induction n9 with
    | zero =>
      intro i hi9 H locs ls hP hD hS hl
      have hi8 : i = 16 := by omega
      subst hi8
      refine lv_iload_n hx hb dX0_removeStale_4 rfl (lv_at hl 2 rfl) ?_
      refine lv_bipush (v := 16) hx hb dX0_removeStale_5 (by decide) ?_
      refine lv_icmp_ge (tgt := 42) hx hb dX0_removeStale_7 (by decide) (fun _ => ?_) (fun c_ => absurd (by decide) c_)
      refine lv_iload_n hx hb dX0_removeStale_42 rfl (lv_at hl 1 rfl) ?_
      exact k_iret hx hb hr hlk hP hS hAe rfl rfl dX0_removeStale_43
    | succ n9 ih =>
      intro i hi9 H locs ls hP hD hS hl
      have hlt : i < 16 := by omega
      refine lv_iload_n hx hb dX0_removeStale_4 rfl (lv_at hl 2 rfl) ?_
      refine lv_bipush (v := 16) hx hb dX0_removeStale_5 (by decide) ?_
      refine lv_icmp_ge (tgt := 42) hx hb dX0_removeStale_7 (by decide) (fun c_ => absurd c_ (nI_ge (a := i) (b := 16) hlt (by decide))) (fun _ => ?_)
      refine lv_aload_n hx hb dX0_removeStale_10 rfl (lv_at hl 0 rfl) ?_
      refine va_get (D := D) (ci := 0) (v := .ref az) (C := RX0) (T := TX0) (N := 8) hx hb hts hi0 hown hK hP 0 rfl rfl 3 (by decide) (hts (.fieldLink RX0 22 "GracefulRestart$Peer" "staleLearned" "[Z") (List.mem_of_getElem? (i := 1) rfl)) (fun _ h9 => h9) rfl dX0_removeStale_11 ?_
      refine lv_iload_n hx hb dX0_removeStale_14 rfl (lv_at hl 2 rfl) ?_
      refine k_zald (k := i) hx hb hK hP 3 1 rfl rfl rfl (by omega) (by decide) dX0_removeStale_15 ?_
      refine k_top (y := Z i) (kCut_at _ _ _) ?_
      refine lv_if_eq (tgt := 36) hx hb dX0_removeStale_16 (by decide) (fun c_16 => ?_) (fun c_16 => ?_)
      · refine lv_iinc (v := nI (i + 1)) (lv' := [(2, .int (nI (i + 1))), (0, .ref ao), (1, .int (kCnt (nz Z) i))]) hx hb dX0_removeStale_36 hl (k := 2) rfl (nI_1 i) (by decide) rfl (fun ls hl => ?_)
        refine lv_goto (tgt := 4) hx hb dX0_removeStale_39 (by decide) ?_
        rw [kCut_f L (nz_f c_16), kCut_f Z (nz_f c_16)] at hP hD
        rw [kCnt_f (nz_f c_16)] at hl
        exact ih (i + 1) (by omega) _ _ ls hP hD hS (lv_sub hl [1, 2, 0] rfl)
      · refine lv_aload_n hx hb dX0_removeStale_19 rfl (lv_at hl 0 rfl) ?_
        refine va_get (D := D) (ci := 0) (v := .ref al) (C := RX0) (T := TX0) (N := 8) hx hb hts hi0 hown hK hP 0 rfl rfl 2 (by decide) (hts (.fieldLink RX0 19 "GracefulRestart$Peer" "learned" "[I") (List.mem_of_getElem? (i := 2) rfl)) (fun _ h9 => h9) rfl dX0_removeStale_20 ?_
        refine lv_iload_n hx hb dX0_removeStale_23 rfl (lv_at hl 2 rfl) ?_
        refine lv_iconst (v := 0) hx hb dX0_removeStale_24 (by decide) ?_
        refine k_iast (k := i) hx hb hK hP hD hS 2 0 rfl rfl rfl (by omega) (by decide) (W1 := (pW cI cZ ao af al az g F (upd (kCut (nz Z) i L) i 0) (kCut (nz Z) i Z) st rt sl mk)) rfl dX0_removeStale_25 (fun H locs hP hD hS => ?_)
        refine lv_aload_n hx hb dX0_removeStale_26 rfl (lv_at hl 0 rfl) ?_
        refine va_get (D := D) (ci := 0) (v := .ref az) (C := RX0) (T := TX0) (N := 8) hx hb hts hi0 hown hK hP 0 rfl rfl 3 (by decide) (hts (.fieldLink RX0 22 "GracefulRestart$Peer" "staleLearned" "[Z") (List.mem_of_getElem? (i := 1) rfl)) (fun _ h9 => h9) rfl dX0_removeStale_27 ?_
        refine lv_iload_n hx hb dX0_removeStale_30 rfl (lv_at hl 2 rfl) ?_
        refine lv_iconst (v := 0) hx hb dX0_removeStale_31 (by decide) ?_
        refine k_zast (k := i) hx hb hK hP hD hS 3 1 rfl rfl rfl (by omega) (by decide) (by decide) (W1 := (pW cI cZ ao af al az g F (upd (kCut (nz Z) i L) i 0) (upd (kCut (nz Z) i Z) i 0) st rt sl mk)) rfl dX0_removeStale_32 (fun H locs hP hD hS => ?_)
        refine lv_iinc (v := kCnt (nz Z) (i + 1)) (lv' := [(1, .int (kCnt (nz Z) (i + 1))), (0, .ref ao), (2, .int (nI i))]) hx hb dX0_removeStale_33 hl (k := 1) rfl (kCnt_t (nz_t c_16)) (by decide) rfl (fun ls hl => ?_)
        refine lv_iinc (v := nI (i + 1)) (lv' := [(2, .int (nI (i + 1))), (1, .int (kCnt (nz Z) (i + 1))), (0, .ref ao)]) hx hb dX0_removeStale_36 hl (k := 2) rfl (nI_1 i) (by decide) rfl (fun ls hl => ?_)
        refine lv_goto (tgt := 4) hx hb dX0_removeStale_39 (by decide) ?_
        rw [kCut_t L (nz_t c_16), kCut_t Z (nz_t c_16)] at hP hD
        exact ih (i + 1) (by omega) _ _ ls hP hD hS (lv_sub hl [2, 1, 0] rfl)
  rw [← kCut_0 (nz Z) L, ← kCut_0 (nz Z) Z] at hP hD
  exact lp4 16 0 (by omega) _ _ ls hP hD hS (lv_sub hl [2, 1, 0] rfl)

set_option maxRecDepth 100000 in
set_option maxHeartbeats 4000000 in
theorem c_X0_goDown (l : Launch) (D : va_G) (cI cZ cP : ClassId) (ao af al az : Nat) (g : Int32) (F L Z : FR) (st rt sl mk : Int32) : MM l yX0_goDown wsX0_goDown ({ frames := 1, cells := 0, slots := 0, locals := 22 }) D (kTy cI cZ cP) [.ref ao] (pW cI cZ ao af al az g F L Z st rt sl mk) (some (.int (kCnt (nz L) 16))) (pW cI cZ ao af al az g F (kCut tt9 16 L) (kCut tt9 16 Z) 2 0 0 mk) := by
  refine MM.ofW (cc := cX0_goDown) (maxL := 1) (ret := (some .int)) (by decide) rfl (Nat.le_of_ble_eq_true rfl) ?_
  intro p e s m below meth c ls A hx hb hr hlk hml hts hown hK hN hP hD hS hAe hl
  have hown : s.vm.findClass RX0 = some m.cls := hown
  have hi0 : ∀ w ∈ wsX00, w ∈ wsX0_goDown := fun w h => List.mem_cons_of_mem _ (List.mem_append_right _ h)
  have hl : lv_has ls 1 [(0, .ref ao)] := hl
  refine lv_aload_n hx hb dX0_goDown_0 rfl (lv_at hl 0 rfl) ?_
  refine lv_iconst (v := 2) hx hb dX0_goDown_1 (by decide) ?_
  refine k_put (D := D) (ci := 0) (v := .int 2) (ty := .int) (C := RX0) (T := TX0) (N := 8) hx hb hts hi0 tyX0 tyX0_ok nmX0 hown hK hP hD hS 0 rfl rfl 4 (by decide) (hts (.fieldLink RX0 26 "GracefulRestart$Peer" "state" "I") (List.mem_of_getElem? (i := 1) rfl)) (fun _ h9 => h9) rfl (by decide +kernel) rfl rfl (Nat.le_of_ble_eq_true rfl) (W1 := (pW cI cZ ao af al az g F L Z 2 rt sl mk)) rfl dX0_goDown_2 (fun H locs hP hD hS => ?_)
  refine lv_aload_n hx hb dX0_goDown_5 rfl (lv_at hl 0 rfl) ?_
  refine lv_iconst (v := 0) hx hb dX0_goDown_6 (by decide) ?_
  refine k_put (D := D) (ci := 0) (v := .int 0) (ty := .int) (C := RX0) (T := TX0) (N := 8) hx hb hts hi0 tyX0 tyX0_ok nmX0 hown hK hP hD hS 0 rfl rfl 5 (by decide) (hts (.fieldLink RX0 30 "GracefulRestart$Peer" "restartLeft" "I") (List.mem_of_getElem? (i := 2) rfl)) (fun _ h9 => h9) rfl (by decide +kernel) rfl rfl (Nat.le_of_ble_eq_true rfl) (W1 := (pW cI cZ ao af al az g F L Z 2 0 sl mk)) rfl dX0_goDown_7 (fun H locs hP hD hS => ?_)
  refine lv_aload_n hx hb dX0_goDown_10 rfl (lv_at hl 0 rfl) ?_
  refine lv_iconst (v := 0) hx hb dX0_goDown_11 (by decide) ?_
  refine k_put (D := D) (ci := 0) (v := .int 0) (ty := .int) (C := RX0) (T := TX0) (N := 8) hx hb hts hi0 tyX0 tyX0_ok nmX0 hown hK hP hD hS 0 rfl rfl 6 (by decide) (hts (.fieldLink RX0 33 "GracefulRestart$Peer" "staleLeft" "I") (List.mem_of_getElem? (i := 3) rfl)) (fun _ h9 => h9) rfl (by decide +kernel) rfl rfl (Nat.le_of_ble_eq_true rfl) (W1 := (pW cI cZ ao af al az g F L Z 2 0 0 mk)) rfl dX0_goDown_12 (fun H locs hP hD hS => ?_)
  refine lv_aload_n hx hb dX0_goDown_15 rfl (lv_at hl 0 rfl) ?_
  refine kV (As := []) (rest := []) (Wc := (pW cI cZ ao af al az g F L Z 2 0 0 mk)) (Wc1 := (pW cI cZ ao af al az g F (kCut tt9 16 L) (kCut tt9 16 Z) 2 0 0 mk)) (Wd1 := (pW cI cZ ao af al az g F (kCut tt9 16 L) (kCut tt9 16 Z) 2 0 0 mk)) (o := some (.int (kCnt (nz L) 16))) ⟨hx, hb, hml, hown, hts⟩ (c_X0_removeLearned l D cI cZ cP ao af al az g F L Z 2 0 0 mk) (cwV 0 hts gX0_goDown_X0_removeLearned rfl rfl rfl (by decide +kernel) ⟨Nat.le_of_ble_eq_true rfl, Nat.le_of_ble_eq_true rfl⟩) hK hN hP hD hS (fun j => j) (fun _ _ h => h) (fun _ _ _ _ h => h) rfl (fun k q h => Or.inl ⟨k, h⟩) 0 0 rfl rfl rfl rfl hl.1 rfl (Nat.le_of_ble_eq_true rfl) ⟨Nat.zero_le _, Nat.zero_le _⟩ dX0_goDown_16 (fun H locs hP hD hS => ?_)
  exact k_iret hx hb hr hlk hP hS hAe rfl rfl dX0_goDown_19

set_option maxRecDepth 100000 in
set_option maxHeartbeats 4000000 in
theorem c_X0_loseRouter (l : Launch) (D : va_G) (cI cZ cP : ClassId) (ao af al az : Nat) (g : Int32) (F L Z : FR) (st rt sl mk : Int32) (x : Int32) : MM l yX0_loseRouter wsX0_loseRouter ({ frames := 2, cells := 0, slots := 0, locals := 42 }) D (kTy cI cZ cP) [.ref ao, .int x] (pW cI cZ ao af al az g F L Z st rt sl mk) (none) (if g = 0 then (pW cI cZ ao af al az g F (kCut tt9 16 L) (kCut tt9 16 Z) 2 0 0 mk) else (pW cI cZ ao af al az g F (kCut (nz Z) 16 L) (kMrk 0 (kCut (nz Z) 16 L) 16 (kCut (nz Z) 16 Z)) 1 x 0 mk)) := by
  refine MM.ofW (cc := cX0_loseRouter) (maxL := 3) (ret := none) (by decide) rfl (Nat.le_of_ble_eq_true rfl) ?_
  intro p e s m below meth c ls A hx hb hr hlk hml hts hown hK hN hP hD hS hAe hl
  have hown : s.vm.findClass RX0 = some m.cls := hown
  have hi0 : ∀ w ∈ wsX00, w ∈ wsX0_loseRouter := fun w h => List.mem_cons_of_mem _ (List.mem_append_right _ h)
  have hl : lv_has ls 3 [(0, .ref ao), (1, .int x)] := hl
  refine lv_aload_n hx hb dX0_loseRouter_0 rfl (lv_at hl 0 rfl) ?_
  refine va_get (D := D) (ci := 0) (v := .int g) (C := RX0) (T := TX0) (N := 8) hx hb hts hi0 hown hK hP 0 rfl rfl 0 (by decide) (hts (.fieldLink RX0 9 "GracefulRestart$Peer" "graceful" "Z") (List.mem_of_getElem? (i := 1) rfl)) (fun _ h9 => h9) rfl dX0_loseRouter_1 ?_
  refine lv_if_ne (tgt := 13) hx hb dX0_loseRouter_4 (by decide) (fun c_4 => ?_) (fun c_4 => ?_)
  · refine lv_aload_n hx hb dX0_loseRouter_13 rfl (lv_at hl 0 rfl) ?_
    refine lv_iconst (v := 1) hx hb dX0_loseRouter_14 (by decide) ?_
    refine k_put (D := D) (ci := 0) (v := .int 1) (ty := .int) (C := RX0) (T := TX0) (N := 8) hx hb hts hi0 tyX0 tyX0_ok nmX0 hown hK hP hD hS 0 rfl rfl 4 (by decide) (hts (.fieldLink RX0 26 "GracefulRestart$Peer" "state" "I") (List.mem_of_getElem? (i := 2) rfl)) (fun _ h9 => h9) rfl (by decide +kernel) rfl rfl (Nat.le_of_ble_eq_true rfl) (W1 := (pW cI cZ ao af al az g F L Z 1 rt sl mk)) rfl dX0_loseRouter_15 (fun H locs hP hD hS => ?_)
    refine lv_aload_n hx hb dX0_loseRouter_18 rfl (lv_at hl 0 rfl) ?_
    refine kV (As := []) (rest := []) (Wc := (pW cI cZ ao af al az g F L Z 1 rt sl mk)) (Wc1 := (pW cI cZ ao af al az g F (kCut (nz Z) 16 L) (kCut (nz Z) 16 Z) 1 rt sl mk)) (Wd1 := (pW cI cZ ao af al az g F (kCut (nz Z) 16 L) (kCut (nz Z) 16 Z) 1 rt sl mk)) (o := some (.int (kCnt (nz Z) 16))) ⟨hx, hb, hml, hown, hts⟩ (c_X0_removeStale l D cI cZ cP ao af al az g F L Z 1 rt sl mk) (cwV 0 hts gX0_loseRouter_X0_removeStale rfl rfl rfl (by decide +kernel) ⟨Nat.le_of_ble_eq_true rfl, Nat.le_of_ble_eq_true rfl⟩) hK hN hP hD hS (fun j => j) (fun _ _ h => h) (fun _ _ _ _ h => h) rfl (fun k q h => Or.inl ⟨k, h⟩) 0 0 rfl rfl rfl rfl hl.1 rfl (Nat.le_of_ble_eq_true rfl) ⟨Nat.zero_le _, Nat.zero_le _⟩ dX0_loseRouter_19 (fun H locs hP hD hS => ?_)
    refine lv_pop hx hb dX0_loseRouter_22 rfl ?_
    refine lv_iconst (v := 0) hx hb dX0_loseRouter_23 (by decide) ?_
    refine lv_istore_n (lv' := [(2, .int 0), (0, .ref ao), (1, .int x)]) hx hb dX0_loseRouter_24 rfl hl (by decide) rfl (fun ls hl => ?_)
    have lp25 : ∀ (n9 i : Nat), i + n9 = 16 → ∀ (H : Heap) (locs : List Loc) (ls : Array Slot), va_P D vwCl (pW cI cZ ao af al az g F (kCut (nz Z) 16 L) (kMrk 0 (kCut (nz Z) 16 L) i (kCut (nz Z) 16 Z)) 1 rt sl mk) H → va_D A (pW cI cZ ao af al az g F (kCut (nz Z) 16 L) (kMrk 0 (kCut (nz Z) 16 L) i (kCut (nz Z) 16 Z)) 1 rt sl mk) → va_S A s.heap H locs → lv_has ls 3 [(0, .ref ao), (1, .int x), (2, .int (nI i))] → W p l e (headSpec wsX0_loseRouter ({ frames := 2, cells := 0, slots := 0, locals := 42 })).room s m ([.ref ao, .int x] : List Value).toArray below meth c H locs 0 0 (MQ below (kPost D (pW cI cZ ao af al az g F L Z st rt sl mk) (if g = 0 then (pW cI cZ ao af al az g F (kCut tt9 16 L) (kCut tt9 16 Z) 2 0 0 mk) else (pW cI cZ ao af al az g F (kCut (nz Z) 16 L) (kMrk 0 (kCut (nz Z) 16 L) 16 (kCut (nz Z) 16 Z)) 1 x 0 mk)) (none)) ([.ref ao, .int x] : List Value).toArray s 0 0 (kA (pW cI cZ ao af al az g F L Z st rt sl mk))) (F0 m 25 ls []) := by
      intro n9
      induction n9 with
      | zero =>
        intro i hi9 H locs ls hP hD hS hl
        have hi8 : i = 16 := by omega
        subst hi8
        refine lv_iload_n hx hb dX0_loseRouter_25 rfl (lv_at hl 2 rfl) ?_
        refine lv_bipush (v := 16) hx hb dX0_loseRouter_26 (by decide) ?_
        refine lv_icmp_ge (tgt := 57) hx hb dX0_loseRouter_28 (by decide) (fun _ => ?_) (fun c_ => absurd (by decide) c_)
        refine lv_aload_n hx hb dX0_loseRouter_57 rfl (lv_at hl 0 rfl) ?_
        refine lv_iconst (v := 0) hx hb dX0_loseRouter_58 (by decide) ?_
        refine k_put (D := D) (ci := 0) (v := .int 0) (ty := .int) (C := RX0) (T := TX0) (N := 8) hx hb hts hi0 tyX0 tyX0_ok nmX0 hown hK hP hD hS 0 rfl rfl 6 (by decide) (hts (.fieldLink RX0 33 "GracefulRestart$Peer" "staleLeft" "I") (List.mem_of_getElem? (i := 5) rfl)) (fun _ h9 => h9) rfl (by decide +kernel) rfl rfl (Nat.le_of_ble_eq_true rfl) (W1 := (pW cI cZ ao af al az g F (kCut (nz Z) 16 L) (kMrk 0 (kCut (nz Z) 16 L) 16 (kCut (nz Z) 16 Z)) 1 rt 0 mk)) rfl dX0_loseRouter_59 (fun H locs hP hD hS => ?_)
        refine lv_aload_n hx hb dX0_loseRouter_62 rfl (lv_at hl 0 rfl) ?_
        refine lv_iload_n hx hb dX0_loseRouter_63 rfl (lv_at hl 1 rfl) ?_
        refine k_put (D := D) (ci := 0) (v := .int x) (ty := .int) (C := RX0) (T := TX0) (N := 8) hx hb hts hi0 tyX0 tyX0_ok nmX0 hown hK hP hD hS 0 rfl rfl 5 (by decide) (hts (.fieldLink RX0 30 "GracefulRestart$Peer" "restartLeft" "I") (List.mem_of_getElem? (i := 6) rfl)) (fun _ h9 => h9) rfl (by decide +kernel) rfl rfl (Nat.le_of_ble_eq_true rfl) (W1 := (pW cI cZ ao af al az g F (kCut (nz Z) 16 L) (kMrk 0 (kCut (nz Z) 16 L) 16 (kCut (nz Z) 16 Z)) 1 x 0 mk)) rfl dX0_loseRouter_64 (fun H locs hP hD hS => ?_)
        exact k_vret hx hb hr hlk hP hS hAe (by simp [c_4]) dX0_loseRouter_67
      | succ n9 ih =>
        intro i hi9 H locs ls hP hD hS hl
        have hlt : i < 16 := by omega
        refine lv_iload_n hx hb dX0_loseRouter_25 rfl (lv_at hl 2 rfl) ?_
        refine lv_bipush (v := 16) hx hb dX0_loseRouter_26 (by decide) ?_
        refine lv_icmp_ge (tgt := 57) hx hb dX0_loseRouter_28 (by decide) (fun c_ => absurd c_ (nI_ge (a := i) (b := 16) hlt (by decide))) (fun _ => ?_)
        refine lv_aload_n hx hb dX0_loseRouter_31 rfl (lv_at hl 0 rfl) ?_
        refine va_get (D := D) (ci := 0) (v := .ref az) (C := RX0) (T := TX0) (N := 8) hx hb hts hi0 hown hK hP 0 rfl rfl 3 (by decide) (hts (.fieldLink RX0 22 "GracefulRestart$Peer" "staleLearned" "[Z") (List.mem_of_getElem? (i := 3) rfl)) (fun _ h9 => h9) rfl dX0_loseRouter_32 ?_
        refine lv_iload_n hx hb dX0_loseRouter_35 rfl (lv_at hl 2 rfl) ?_
        refine lv_aload_n hx hb dX0_loseRouter_36 rfl (lv_at hl 0 rfl) ?_
        refine va_get (D := D) (ci := 0) (v := .ref al) (C := RX0) (T := TX0) (N := 8) hx hb hts hi0 hown hK hP 0 rfl rfl 2 (by decide) (hts (.fieldLink RX0 19 "GracefulRestart$Peer" "learned" "[I") (List.mem_of_getElem? (i := 4) rfl)) (fun _ h9 => h9) rfl dX0_loseRouter_37 ?_
        refine lv_iload_n hx hb dX0_loseRouter_40 rfl (lv_at hl 2 rfl) ?_
        refine k_iald (k := i) hx hb hK hP 2 0 rfl rfl rfl (by omega) (by decide) dX0_loseRouter_41 ?_
        refine lv_if_eq (tgt := 49) hx hb dX0_loseRouter_42 (by decide) (fun c_42 => ?_) (fun c_42 => ?_)
        · refine lv_iconst (v := 0) hx hb dX0_loseRouter_49 (by decide) ?_
          refine k_zast (k := i) hx hb hK hP hD hS 3 1 rfl rfl rfl (by omega) (by decide) (by decide) (W1 := (pW cI cZ ao af al az g F (kCut (nz Z) 16 L) (upd (kMrk 0 (kCut (nz Z) 16 L) i (kCut (nz Z) 16 Z)) i 0) 1 rt sl mk)) rfl dX0_loseRouter_50 (fun H locs hP hD hS => ?_)
          refine lv_iinc (v := nI (i + 1)) (lv' := [(2, .int (nI (i + 1))), (0, .ref ao), (1, .int x)]) hx hb dX0_loseRouter_51 hl (k := 2) rfl (nI_1 i) (by decide) rfl (fun ls hl => ?_)
          refine lv_goto (tgt := 25) hx hb dX0_loseRouter_54 (by decide) ?_
          rw [kMrk_s 0 (kCut (nz Z) 16 L) i (kCut (nz Z) 16 Z) (by simp [c_42])] at hP hD
          exact ih (i + 1) (by omega) _ _ ls hP hD hS (lv_sub hl [1, 2, 0] rfl)
        · refine lv_iconst (v := 1) hx hb dX0_loseRouter_45 (by decide) ?_
          refine lv_goto (tgt := 50) hx hb dX0_loseRouter_46 (by decide) ?_
          refine k_zast (k := i) hx hb hK hP hD hS 3 1 rfl rfl rfl (by omega) (by decide) (by decide) (W1 := (pW cI cZ ao af al az g F (kCut (nz Z) 16 L) (upd (kMrk 0 (kCut (nz Z) 16 L) i (kCut (nz Z) 16 Z)) i 1) 1 rt sl mk)) rfl dX0_loseRouter_50 (fun H locs hP hD hS => ?_)
          refine lv_iinc (v := nI (i + 1)) (lv' := [(2, .int (nI (i + 1))), (0, .ref ao), (1, .int x)]) hx hb dX0_loseRouter_51 hl (k := 2) rfl (nI_1 i) (by decide) rfl (fun ls hl => ?_)
          refine lv_goto (tgt := 25) hx hb dX0_loseRouter_54 (by decide) ?_
          rw [kMrk_s 0 (kCut (nz Z) 16 L) i (kCut (nz Z) 16 Z) (by simp [c_42])] at hP hD
          exact ih (i + 1) (by omega) _ _ ls hP hD hS (lv_sub hl [1, 2, 0] rfl)
    rw [← kMrk_0 0 (kCut (nz Z) 16 L) (kCut (nz Z) 16 Z)] at hP hD
    exact lp25 16 0 (by omega) _ _ ls hP hD hS (lv_sub hl [1, 2, 0] rfl)
  · refine lv_aload_n hx hb dX0_loseRouter_7 rfl (lv_at hl 0 rfl) ?_
    refine kV (As := []) (rest := []) (Wc := (pW cI cZ ao af al az g F L Z st rt sl mk)) (Wc1 := (pW cI cZ ao af al az g F (kCut tt9 16 L) (kCut tt9 16 Z) 2 0 0 mk)) (Wd1 := (pW cI cZ ao af al az g F (kCut tt9 16 L) (kCut tt9 16 Z) 2 0 0 mk)) (o := some (.int (kCnt (nz L) 16))) ⟨hx, hb, hml, hown, hts⟩ (c_X0_goDown l D cI cZ cP ao af al az g F L Z st rt sl mk) (cwV 0 hts gX0_loseRouter_X0_goDown rfl rfl rfl (by decide +kernel) ⟨Nat.le_of_ble_eq_true rfl, Nat.le_of_ble_eq_true rfl⟩) hK hN hP hD hS (fun j => j) (fun _ _ h => h) (fun _ _ _ _ h => h) rfl (fun k q h => Or.inl ⟨k, h⟩) 0 0 rfl rfl rfl rfl hl.1 rfl (Nat.le_of_ble_eq_true rfl) ⟨Nat.zero_le _, Nat.zero_le _⟩ dX0_loseRouter_8 (fun H locs hP hD hS => ?_)
    refine lv_pop hx hb dX0_loseRouter_11 rfl ?_
    exact k_vret hx hb hr hlk hP hS hAe (by simp [c_4]) dX0_loseRouter_12

set_option maxRecDepth 100000 in
set_option maxHeartbeats 4000000 in
theorem c_X0_meetRouter (l : Launch) (D : va_G) (cI cZ cP : ClassId) (ao af al az : Nat) (g : Int32) (F L Z : FR) (st rt sl mk : Int32) (x : Int32) : MM l yX0_meetRouter wsX0_meetRouter ({ frames := 0, cells := 0, slots := 0, locals := 0 }) D (kTy cI cZ cP) [.ref ao, .int x] (pW cI cZ ao af al az g F L Z st rt sl mk) (none) (if st = 1 then (pW cI cZ ao af al az g F L Z 0 0 x mk) else (pW cI cZ ao af al az g F L Z 0 rt sl mk)) := by
  refine MM.ofW (cc := cX0_meetRouter) (maxL := 2) (ret := none) (by decide) rfl (Nat.le_of_ble_eq_true rfl) ?_
  intro p e s m below meth c ls A hx hb hr hlk hml hts hown hK hN hP hD hS hAe hl
  have hown : s.vm.findClass RX0 = some m.cls := hown
  have hi0 : ∀ w ∈ wsX00, w ∈ wsX0_meetRouter := fun w h => List.mem_cons_of_mem _ (List.mem_append_right _ h)
  have hl : lv_has ls 2 [(0, .ref ao), (1, .int x)] := hl
  refine lv_aload_n hx hb dX0_meetRouter_0 rfl (lv_at hl 0 rfl) ?_
  refine va_get (D := D) (ci := 0) (v := .int st) (C := RX0) (T := TX0) (N := 8) hx hb hts hi0 hown hK hP 0 rfl rfl 4 (by decide) (hts (.fieldLink RX0 26 "GracefulRestart$Peer" "state" "I") (List.mem_of_getElem? (i := 1) rfl)) (fun _ h9 => h9) rfl dX0_meetRouter_1 ?_
  refine lv_iconst (v := 1) hx hb dX0_meetRouter_4 (by decide) ?_
  refine lv_icmp_ne (tgt := 18) hx hb dX0_meetRouter_5 (by decide) (fun c_5 => ?_) (fun c_5 => ?_)
  · refine lv_aload_n hx hb dX0_meetRouter_18 rfl (lv_at hl 0 rfl) ?_
    refine lv_iconst (v := 0) hx hb dX0_meetRouter_19 (by decide) ?_
    refine k_put (D := D) (ci := 0) (v := .int 0) (ty := .int) (C := RX0) (T := TX0) (N := 8) hx hb hts hi0 tyX0 tyX0_ok nmX0 hown hK hP hD hS 0 rfl rfl 4 (by decide) (hts (.fieldLink RX0 26 "GracefulRestart$Peer" "state" "I") (List.mem_of_getElem? (i := 1) rfl)) (fun _ h9 => h9) rfl (by decide +kernel) rfl rfl (Nat.le_of_ble_eq_true rfl) (W1 := (pW cI cZ ao af al az g F L Z 0 rt sl mk)) rfl dX0_meetRouter_20 (fun H locs hP hD hS => ?_)
    exact k_vret hx hb hr hlk hP hS hAe (by simp [c_5]) dX0_meetRouter_23
  · refine lv_aload_n hx hb dX0_meetRouter_8 rfl (lv_at hl 0 rfl) ?_
    refine lv_iconst (v := 0) hx hb dX0_meetRouter_9 (by decide) ?_
    refine k_put (D := D) (ci := 0) (v := .int 0) (ty := .int) (C := RX0) (T := TX0) (N := 8) hx hb hts hi0 tyX0 tyX0_ok nmX0 hown hK hP hD hS 0 rfl rfl 5 (by decide) (hts (.fieldLink RX0 30 "GracefulRestart$Peer" "restartLeft" "I") (List.mem_of_getElem? (i := 2) rfl)) (fun _ h9 => h9) rfl (by decide +kernel) rfl rfl (Nat.le_of_ble_eq_true rfl) (W1 := (pW cI cZ ao af al az g F L Z st 0 sl mk)) rfl dX0_meetRouter_10 (fun H locs hP hD hS => ?_)
    refine lv_aload_n hx hb dX0_meetRouter_13 rfl (lv_at hl 0 rfl) ?_
    refine lv_iload_n hx hb dX0_meetRouter_14 rfl (lv_at hl 1 rfl) ?_
    refine k_put (D := D) (ci := 0) (v := .int x) (ty := .int) (C := RX0) (T := TX0) (N := 8) hx hb hts hi0 tyX0 tyX0_ok nmX0 hown hK hP hD hS 0 rfl rfl 6 (by decide) (hts (.fieldLink RX0 33 "GracefulRestart$Peer" "staleLeft" "I") (List.mem_of_getElem? (i := 3) rfl)) (fun _ h9 => h9) rfl (by decide +kernel) rfl rfl (Nat.le_of_ble_eq_true rfl) (W1 := (pW cI cZ ao af al az g F L Z st 0 x mk)) rfl dX0_meetRouter_15 (fun H locs hP hD hS => ?_)
    refine lv_aload_n hx hb dX0_meetRouter_18 rfl (lv_at hl 0 rfl) ?_
    refine lv_iconst (v := 0) hx hb dX0_meetRouter_19 (by decide) ?_
    refine k_put (D := D) (ci := 0) (v := .int 0) (ty := .int) (C := RX0) (T := TX0) (N := 8) hx hb hts hi0 tyX0 tyX0_ok nmX0 hown hK hP hD hS 0 rfl rfl 4 (by decide) (hts (.fieldLink RX0 26 "GracefulRestart$Peer" "state" "I") (List.mem_of_getElem? (i := 1) rfl)) (fun _ h9 => h9) rfl (by decide +kernel) rfl rfl (Nat.le_of_ble_eq_true rfl) (W1 := (pW cI cZ ao af al az g F L Z 0 0 x mk)) rfl dX0_meetRouter_20 (fun H locs hP hD hS => ?_)
    exact k_vret hx hb hr hlk hP hS hAe (by simp [c_5]) dX0_meetRouter_23

set_option maxRecDepth 100000 in
set_option maxHeartbeats 4000000 in
theorem c_X0_endResync (l : Launch) (D : va_G) (cI cZ cP : ClassId) (ao af al az : Nat) (g : Int32) (F L Z : FR) (st rt sl mk : Int32) : MM l yX0_endResync wsX0_endResync ({ frames := 1, cells := 0, slots := 0, locals := 22 }) D (kTy cI cZ cP) [.ref ao] (pW cI cZ ao af al az g F L Z st rt sl mk) (none) (pW cI cZ ao af al az g F (kCut (nz Z) 16 L) (kCut (nz Z) 16 Z) st rt 0 mk) := by
  refine MM.ofW (cc := cX0_endResync) (maxL := 1) (ret := none) (by decide) rfl (Nat.le_of_ble_eq_true rfl) ?_
  intro p e s m below meth c ls A hx hb hr hlk hml hts hown hK hN hP hD hS hAe hl
  have hown : s.vm.findClass RX0 = some m.cls := hown
  have hi0 : ∀ w ∈ wsX00, w ∈ wsX0_endResync := fun w h => List.mem_cons_of_mem _ (List.mem_append_right _ h)
  have hl : lv_has ls 1 [(0, .ref ao)] := hl
  refine lv_aload_n hx hb dX0_endResync_0 rfl (lv_at hl 0 rfl) ?_
  refine kV (As := []) (rest := []) (Wc := (pW cI cZ ao af al az g F L Z st rt sl mk)) (Wc1 := (pW cI cZ ao af al az g F (kCut (nz Z) 16 L) (kCut (nz Z) 16 Z) st rt sl mk)) (Wd1 := (pW cI cZ ao af al az g F (kCut (nz Z) 16 L) (kCut (nz Z) 16 Z) st rt sl mk)) (o := some (.int (kCnt (nz Z) 16))) ⟨hx, hb, hml, hown, hts⟩ (c_X0_removeStale l D cI cZ cP ao af al az g F L Z st rt sl mk) (cwV 0 hts gX0_endResync_X0_removeStale rfl rfl rfl (by decide +kernel) ⟨Nat.le_of_ble_eq_true rfl, Nat.le_of_ble_eq_true rfl⟩) hK hN hP hD hS (fun j => j) (fun _ _ h => h) (fun _ _ _ _ h => h) rfl (fun k q h => Or.inl ⟨k, h⟩) 0 0 rfl rfl rfl rfl hl.1 rfl (Nat.le_of_ble_eq_true rfl) ⟨Nat.zero_le _, Nat.zero_le _⟩ dX0_endResync_1 (fun H locs hP hD hS => ?_)
  refine lv_pop hx hb dX0_endResync_4 rfl ?_
  refine lv_aload_n hx hb dX0_endResync_5 rfl (lv_at hl 0 rfl) ?_
  refine lv_iconst (v := 0) hx hb dX0_endResync_6 (by decide) ?_
  refine k_put (D := D) (ci := 0) (v := .int 0) (ty := .int) (C := RX0) (T := TX0) (N := 8) hx hb hts hi0 tyX0 tyX0_ok nmX0 hown hK hP hD hS 0 rfl rfl 6 (by decide) (hts (.fieldLink RX0 33 "GracefulRestart$Peer" "staleLeft" "I") (List.mem_of_getElem? (i := 1) rfl)) (fun _ h9 => h9) rfl (by decide +kernel) rfl rfl (Nat.le_of_ble_eq_true rfl) (W1 := (pW cI cZ ao af al az g F (kCut (nz Z) 16 L) (kCut (nz Z) 16 Z) st rt 0 mk)) rfl dX0_endResync_7 (fun H locs hP hD hS => ?_)
  exact k_vret hx hb hr hlk hP hS hAe rfl dX0_endResync_10

set_option maxRecDepth 100000 in
set_option maxHeartbeats 4000000 in
theorem c_X0_countDown (l : Launch) (D : va_G) (cI cZ cP : ClassId) (ao af al az : Nat) (g : Int32) (F L Z : FR) (st rt sl mk : Int32) : MM l yX0_countDown wsX0_countDown ({ frames := 2, cells := 0, slots := 0, locals := 42 }) D (kTy cI cZ cP) [.ref ao] (pW cI cZ ao af al az g F L Z st rt sl mk) (some (.int (if 0 < rt then (if rt - 1 = 0 then (0 + kCnt (nz L) 16) else (if 0 < sl then (if sl - 1 = 0 then 0 + kCnt (nz Z) 16 else 0) else 0)) else (if 0 < sl then (if sl - 1 = 0 then 0 + kCnt (nz Z) 16 else 0) else 0)))) (if 0 < rt then (if rt - 1 = 0 then (pW cI cZ ao af al az g F (kCut tt9 16 L) (kCut tt9 16 Z) 2 0 0 mk) else (if 0 < sl then (if sl - 1 = 0 then (pW cI cZ ao af al az g F (kCut (nz Z) 16 L) (kCut (nz Z) 16 Z) st (rt - 1) (sl - 1) mk) else (pW cI cZ ao af al az g F L Z st (rt - 1) (sl - 1) mk)) else (pW cI cZ ao af al az g F L Z st (rt - 1) sl mk))) else (if 0 < sl then (if sl - 1 = 0 then (pW cI cZ ao af al az g F (kCut (nz Z) 16 L) (kCut (nz Z) 16 Z) st rt (sl - 1) mk) else (pW cI cZ ao af al az g F L Z st rt (sl - 1) mk)) else (pW cI cZ ao af al az g F L Z st rt sl mk))) := by
  refine MM.ofW (cc := cX0_countDown) (maxL := 2) (ret := (some .int)) (by decide) rfl (Nat.le_of_ble_eq_true rfl) ?_
  intro p e s m below meth c ls A hx hb hr hlk hml hts hown hK hN hP hD hS hAe hl
  have hown : s.vm.findClass RX0 = some m.cls := hown
  have hi0 : ∀ w ∈ wsX00, w ∈ wsX0_countDown := fun w h => List.mem_cons_of_mem _ (List.mem_append_right _ h)
  have hl : lv_has ls 2 [(0, .ref ao)] := hl
  refine lv_iconst (v := 0) hx hb dX0_countDown_0 (by decide) ?_
  refine lv_istore_n (lv' := [(1, .int 0), (0, .ref ao)]) hx hb dX0_countDown_1 rfl hl (by decide) rfl (fun ls hl => ?_)
  refine lv_aload_n hx hb dX0_countDown_2 rfl (lv_at hl 1 rfl) ?_
  refine va_get (D := D) (ci := 0) (v := .int rt) (C := RX0) (T := TX0) (N := 8) hx hb hts hi0 hown hK hP 0 rfl rfl 5 (by decide) (hts (.fieldLink RX0 30 "GracefulRestart$Peer" "restartLeft" "I") (List.mem_of_getElem? (i := 1) rfl)) (fun _ h9 => h9) rfl dX0_countDown_3 ?_
  refine lv_if_le (tgt := 33) hx hb dX0_countDown_6 (by decide) (fun c_6 => ?_) (fun c_6 => ?_)
  · have hc_6 := Int32.not_lt.mpr c_6
    refine lv_aload_n hx hb dX0_countDown_33 rfl (lv_at hl 1 rfl) ?_
    refine va_get (D := D) (ci := 0) (v := .int sl) (C := RX0) (T := TX0) (N := 8) hx hb hts hi0 hown hK hP 0 rfl rfl 6 (by decide) (hts (.fieldLink RX0 33 "GracefulRestart$Peer" "staleLeft" "I") (List.mem_of_getElem? (i := 2) rfl)) (fun _ h9 => h9) rfl dX0_countDown_34 ?_
    refine lv_if_le (tgt := 64) hx hb dX0_countDown_37 (by decide) (fun c_37 => ?_) (fun c_37 => ?_)
    · have hc_37 := Int32.not_lt.mpr c_37
      refine lv_iload_n hx hb dX0_countDown_64 rfl (lv_at hl 0 rfl) ?_
      exact k_iret hx hb hr hlk hP hS hAe (by simp [hc_6, hc_37]) (by simp [hc_6, hc_37]) dX0_countDown_65
    · have hc_37 := Int32.not_le.mp c_37
      refine lv_aload_n hx hb dX0_countDown_40 rfl (lv_at hl 1 rfl) ?_
      refine lv_dup hx hb dX0_countDown_41 rfl ?_
      refine va_get (D := D) (ci := 0) (v := .int sl) (C := RX0) (T := TX0) (N := 8) hx hb hts hi0 hown hK hP 0 rfl rfl 6 (by decide) (hts (.fieldLink RX0 33 "GracefulRestart$Peer" "staleLeft" "I") (List.mem_of_getElem? (i := 2) rfl)) (fun _ h9 => h9) rfl dX0_countDown_42 ?_
      refine lv_iconst (v := 1) hx hb dX0_countDown_45 (by decide) ?_
      refine lv_isub hx hb dX0_countDown_46 ?_
      refine k_put (D := D) (ci := 0) (v := .int (sl - 1)) (ty := .int) (C := RX0) (T := TX0) (N := 8) hx hb hts hi0 tyX0 tyX0_ok nmX0 hown hK hP hD hS 0 rfl rfl 6 (by decide) (hts (.fieldLink RX0 33 "GracefulRestart$Peer" "staleLeft" "I") (List.mem_of_getElem? (i := 2) rfl)) (fun _ h9 => h9) rfl (by decide +kernel) rfl rfl (Nat.le_of_ble_eq_true rfl) (W1 := (pW cI cZ ao af al az g F L Z st rt (sl - 1) mk)) rfl dX0_countDown_47 (fun H locs hP hD hS => ?_)
      refine lv_aload_n hx hb dX0_countDown_50 rfl (lv_at hl 1 rfl) ?_
      refine va_get (D := D) (ci := 0) (v := .int (sl - 1)) (C := RX0) (T := TX0) (N := 8) hx hb hts hi0 hown hK hP 0 rfl rfl 6 (by decide) (hts (.fieldLink RX0 33 "GracefulRestart$Peer" "staleLeft" "I") (List.mem_of_getElem? (i := 2) rfl)) (fun _ h9 => h9) rfl dX0_countDown_51 ?_
      refine lv_if_ne (tgt := 64) hx hb dX0_countDown_54 (by decide) (fun c_54 => ?_) (fun c_54 => ?_)
      · refine lv_iload_n hx hb dX0_countDown_64 rfl (lv_at hl 0 rfl) ?_
        exact k_iret hx hb hr hlk hP hS hAe (by simp [hc_6, hc_37, c_54]) (by simp [hc_6, hc_37, c_54]) dX0_countDown_65
      · refine lv_iload_n hx hb dX0_countDown_57 rfl (lv_at hl 0 rfl) ?_
        refine lv_aload_n hx hb dX0_countDown_58 rfl (lv_at hl 1 rfl) ?_
        refine kV (As := []) (rest := [.int 0]) (Wc := (pW cI cZ ao af al az g F L Z st rt (sl - 1) mk)) (Wc1 := (pW cI cZ ao af al az g F (kCut (nz Z) 16 L) (kCut (nz Z) 16 Z) st rt (sl - 1) mk)) (Wd1 := (pW cI cZ ao af al az g F (kCut (nz Z) 16 L) (kCut (nz Z) 16 Z) st rt (sl - 1) mk)) (o := some (.int (kCnt (nz Z) 16))) ⟨hx, hb, hml, hown, hts⟩ (c_X0_removeStale l D cI cZ cP ao af al az g F L Z st rt (sl - 1) mk) (cwV 0 hts gX0_countDown_X0_removeStale rfl rfl rfl (by decide +kernel) ⟨Nat.le_of_ble_eq_true rfl, Nat.le_of_ble_eq_true rfl⟩) hK hN hP hD hS (fun j => j) (fun _ _ h => h) (fun _ _ _ _ h => h) rfl (fun k q h => Or.inl ⟨k, h⟩) 0 0 rfl rfl rfl rfl hl.1 rfl (Nat.le_of_ble_eq_true rfl) ⟨Nat.zero_le _, Nat.zero_le _⟩ dX0_countDown_59 (fun H locs hP hD hS => ?_)
        refine lv_iadd hx hb dX0_countDown_62 ?_
        refine lv_istore_n (lv' := [(1, .int (0 + (kCnt (nz Z) 16))), (0, .ref ao)]) hx hb dX0_countDown_63 rfl hl (by decide) rfl (fun ls hl => ?_)
        refine lv_iload_n hx hb dX0_countDown_64 rfl (lv_at hl 0 rfl) ?_
        exact k_iret hx hb hr hlk hP hS hAe (by simp [hc_6, hc_37, c_54]) (by simp [hc_6, hc_37, c_54]) dX0_countDown_65
  · have hc_6 := Int32.not_le.mp c_6
    refine lv_aload_n hx hb dX0_countDown_9 rfl (lv_at hl 1 rfl) ?_
    refine lv_dup hx hb dX0_countDown_10 rfl ?_
    refine va_get (D := D) (ci := 0) (v := .int rt) (C := RX0) (T := TX0) (N := 8) hx hb hts hi0 hown hK hP 0 rfl rfl 5 (by decide) (hts (.fieldLink RX0 30 "GracefulRestart$Peer" "restartLeft" "I") (List.mem_of_getElem? (i := 1) rfl)) (fun _ h9 => h9) rfl dX0_countDown_11 ?_
    refine lv_iconst (v := 1) hx hb dX0_countDown_14 (by decide) ?_
    refine lv_isub hx hb dX0_countDown_15 ?_
    refine k_put (D := D) (ci := 0) (v := .int (rt - 1)) (ty := .int) (C := RX0) (T := TX0) (N := 8) hx hb hts hi0 tyX0 tyX0_ok nmX0 hown hK hP hD hS 0 rfl rfl 5 (by decide) (hts (.fieldLink RX0 30 "GracefulRestart$Peer" "restartLeft" "I") (List.mem_of_getElem? (i := 1) rfl)) (fun _ h9 => h9) rfl (by decide +kernel) rfl rfl (Nat.le_of_ble_eq_true rfl) (W1 := (pW cI cZ ao af al az g F L Z st (rt - 1) sl mk)) rfl dX0_countDown_16 (fun H locs hP hD hS => ?_)
    refine lv_aload_n hx hb dX0_countDown_19 rfl (lv_at hl 1 rfl) ?_
    refine va_get (D := D) (ci := 0) (v := .int (rt - 1)) (C := RX0) (T := TX0) (N := 8) hx hb hts hi0 hown hK hP 0 rfl rfl 5 (by decide) (hts (.fieldLink RX0 30 "GracefulRestart$Peer" "restartLeft" "I") (List.mem_of_getElem? (i := 1) rfl)) (fun _ h9 => h9) rfl dX0_countDown_20 ?_
    refine lv_if_ne (tgt := 33) hx hb dX0_countDown_23 (by decide) (fun c_23 => ?_) (fun c_23 => ?_)
    · refine lv_aload_n hx hb dX0_countDown_33 rfl (lv_at hl 1 rfl) ?_
      refine va_get (D := D) (ci := 0) (v := .int sl) (C := RX0) (T := TX0) (N := 8) hx hb hts hi0 hown hK hP 0 rfl rfl 6 (by decide) (hts (.fieldLink RX0 33 "GracefulRestart$Peer" "staleLeft" "I") (List.mem_of_getElem? (i := 2) rfl)) (fun _ h9 => h9) rfl dX0_countDown_34 ?_
      refine lv_if_le (tgt := 64) hx hb dX0_countDown_37 (by decide) (fun c_37 => ?_) (fun c_37 => ?_)
      · have hc_37 := Int32.not_lt.mpr c_37
        refine lv_iload_n hx hb dX0_countDown_64 rfl (lv_at hl 0 rfl) ?_
        exact k_iret hx hb hr hlk hP hS hAe (by simp [hc_6, c_23, hc_37]) (by simp [hc_6, c_23, hc_37]) dX0_countDown_65
      · have hc_37 := Int32.not_le.mp c_37
        refine lv_aload_n hx hb dX0_countDown_40 rfl (lv_at hl 1 rfl) ?_
        refine lv_dup hx hb dX0_countDown_41 rfl ?_
        refine va_get (D := D) (ci := 0) (v := .int sl) (C := RX0) (T := TX0) (N := 8) hx hb hts hi0 hown hK hP 0 rfl rfl 6 (by decide) (hts (.fieldLink RX0 33 "GracefulRestart$Peer" "staleLeft" "I") (List.mem_of_getElem? (i := 2) rfl)) (fun _ h9 => h9) rfl dX0_countDown_42 ?_
        refine lv_iconst (v := 1) hx hb dX0_countDown_45 (by decide) ?_
        refine lv_isub hx hb dX0_countDown_46 ?_
        refine k_put (D := D) (ci := 0) (v := .int (sl - 1)) (ty := .int) (C := RX0) (T := TX0) (N := 8) hx hb hts hi0 tyX0 tyX0_ok nmX0 hown hK hP hD hS 0 rfl rfl 6 (by decide) (hts (.fieldLink RX0 33 "GracefulRestart$Peer" "staleLeft" "I") (List.mem_of_getElem? (i := 2) rfl)) (fun _ h9 => h9) rfl (by decide +kernel) rfl rfl (Nat.le_of_ble_eq_true rfl) (W1 := (pW cI cZ ao af al az g F L Z st (rt - 1) (sl - 1) mk)) rfl dX0_countDown_47 (fun H locs hP hD hS => ?_)
        refine lv_aload_n hx hb dX0_countDown_50 rfl (lv_at hl 1 rfl) ?_
        refine va_get (D := D) (ci := 0) (v := .int (sl - 1)) (C := RX0) (T := TX0) (N := 8) hx hb hts hi0 hown hK hP 0 rfl rfl 6 (by decide) (hts (.fieldLink RX0 33 "GracefulRestart$Peer" "staleLeft" "I") (List.mem_of_getElem? (i := 2) rfl)) (fun _ h9 => h9) rfl dX0_countDown_51 ?_
        refine lv_if_ne (tgt := 64) hx hb dX0_countDown_54 (by decide) (fun c_54 => ?_) (fun c_54 => ?_)
        · refine lv_iload_n hx hb dX0_countDown_64 rfl (lv_at hl 0 rfl) ?_
          exact k_iret hx hb hr hlk hP hS hAe (by simp [hc_6, c_23, hc_37, c_54]) (by simp [hc_6, c_23, hc_37, c_54]) dX0_countDown_65
        · refine lv_iload_n hx hb dX0_countDown_57 rfl (lv_at hl 0 rfl) ?_
          refine lv_aload_n hx hb dX0_countDown_58 rfl (lv_at hl 1 rfl) ?_
          refine kV (As := []) (rest := [.int 0]) (Wc := (pW cI cZ ao af al az g F L Z st (rt - 1) (sl - 1) mk)) (Wc1 := (pW cI cZ ao af al az g F (kCut (nz Z) 16 L) (kCut (nz Z) 16 Z) st (rt - 1) (sl - 1) mk)) (Wd1 := (pW cI cZ ao af al az g F (kCut (nz Z) 16 L) (kCut (nz Z) 16 Z) st (rt - 1) (sl - 1) mk)) (o := some (.int (kCnt (nz Z) 16))) ⟨hx, hb, hml, hown, hts⟩ (c_X0_removeStale l D cI cZ cP ao af al az g F L Z st (rt - 1) (sl - 1) mk) (cwV 0 hts gX0_countDown_X0_removeStale rfl rfl rfl (by decide +kernel) ⟨Nat.le_of_ble_eq_true rfl, Nat.le_of_ble_eq_true rfl⟩) hK hN hP hD hS (fun j => j) (fun _ _ h => h) (fun _ _ _ _ h => h) rfl (fun k q h => Or.inl ⟨k, h⟩) 0 0 rfl rfl rfl rfl hl.1 rfl (Nat.le_of_ble_eq_true rfl) ⟨Nat.zero_le _, Nat.zero_le _⟩ dX0_countDown_59 (fun H locs hP hD hS => ?_)
          refine lv_iadd hx hb dX0_countDown_62 ?_
          refine lv_istore_n (lv' := [(1, .int (0 + (kCnt (nz Z) 16))), (0, .ref ao)]) hx hb dX0_countDown_63 rfl hl (by decide) rfl (fun ls hl => ?_)
          refine lv_iload_n hx hb dX0_countDown_64 rfl (lv_at hl 0 rfl) ?_
          exact k_iret hx hb hr hlk hP hS hAe (by simp [hc_6, c_23, hc_37, c_54]) (by simp [hc_6, c_23, hc_37, c_54]) dX0_countDown_65
    · refine lv_iload_n hx hb dX0_countDown_26 rfl (lv_at hl 0 rfl) ?_
      refine lv_aload_n hx hb dX0_countDown_27 rfl (lv_at hl 1 rfl) ?_
      refine kV (As := []) (rest := [.int 0]) (Wc := (pW cI cZ ao af al az g F L Z st (rt - 1) sl mk)) (Wc1 := (pW cI cZ ao af al az g F (kCut tt9 16 L) (kCut tt9 16 Z) 2 0 0 mk)) (Wd1 := (pW cI cZ ao af al az g F (kCut tt9 16 L) (kCut tt9 16 Z) 2 0 0 mk)) (o := some (.int (kCnt (nz L) 16))) ⟨hx, hb, hml, hown, hts⟩ (c_X0_goDown l D cI cZ cP ao af al az g F L Z st (rt - 1) sl mk) (cwV 0 hts gX0_countDown_X0_goDown rfl rfl rfl (by decide +kernel) ⟨Nat.le_of_ble_eq_true rfl, Nat.le_of_ble_eq_true rfl⟩) hK hN hP hD hS (fun j => j) (fun _ _ h => h) (fun _ _ _ _ h => h) rfl (fun k q h => Or.inl ⟨k, h⟩) 0 0 rfl rfl rfl rfl hl.1 rfl (Nat.le_of_ble_eq_true rfl) ⟨Nat.zero_le _, Nat.zero_le _⟩ dX0_countDown_28 (fun H locs hP hD hS => ?_)
      refine lv_iadd hx hb dX0_countDown_31 ?_
      refine lv_istore_n (lv' := [(1, .int (0 + (kCnt (nz L) 16))), (0, .ref ao)]) hx hb dX0_countDown_32 rfl hl (by decide) rfl (fun ls hl => ?_)
      refine lv_aload_n hx hb dX0_countDown_33 rfl (lv_at hl 1 rfl) ?_
      refine va_get (D := D) (ci := 0) (v := .int 0) (C := RX0) (T := TX0) (N := 8) hx hb hts hi0 hown hK hP 0 rfl rfl 6 (by decide) (hts (.fieldLink RX0 33 "GracefulRestart$Peer" "staleLeft" "I") (List.mem_of_getElem? (i := 2) rfl)) (fun _ h9 => h9) rfl dX0_countDown_34 ?_
      refine lv_if_le (tgt := 64) hx hb dX0_countDown_37 (by decide) (fun _ => ?_) (fun c_ => absurd (by decide) c_)
      refine lv_iload_n hx hb dX0_countDown_64 rfl (lv_at hl 0 rfl) ?_
      exact k_iret hx hb hr hlk hP hS hAe (by simp [hc_6, c_23]) (by simp [hc_6, c_23]) dX0_countDown_65
end
section
/-! reads behind writes, once for all -/
theorem gs_T1_T1 (S : ST) (v : Int32) : g_T1 (s_T1 S v) = v := rfl
theorem gs_T1_T2 (S : ST) (v : Int32) : g_T1 (s_T2 S v) = g_T1 S := rfl
theorem gs_T1_T3 (S : ST) (v : Int32) : g_T1 (s_T3 S v) = g_T1 S := rfl
theorem gs_T1_N (S : ST) (v : Nat) : g_T1 (s_N S v) = g_T1 S := rfl
theorem gs_T1_Gr (S : ST) (v : FR) : g_T1 (s_Gr S v) = g_T1 S := rfl
theorem gs_T1_St (S : ST) (v : FR) : g_T1 (s_St S v) = g_T1 S := rfl
theorem gs_T1_Rt (S : ST) (v : FR) : g_T1 (s_Rt S v) = g_T1 S := rfl
theorem gs_T1_Sl (S : ST) (v : FR) : g_T1 (s_Sl S v) = g_T1 S := rfl
theorem gs_T1_Hm (S : ST) (v : GR) : g_T1 (s_Hm S v) = g_T1 S := rfl
theorem gs_T1_Of (S : ST) (v : GR) : g_T1 (s_Of S v) = g_T1 S := rfl
theorem gs_T1_Le (S : ST) (v : GR) : g_T1 (s_Le S v) = g_T1 S := rfl
theorem gs_T1_Ss (S : ST) (v : GR) : g_T1 (s_Ss S v) = g_T1 S := rfl
theorem gs_T1_Ho (S : ST) (v : FR) : g_T1 (s_Ho S v) = g_T1 S := rfl
theorem gs_T1_Hs (S : ST) (v : FR) : g_T1 (s_Hs S v) = g_T1 S := rfl
theorem gs_T1_Hz (S : ST) (v : FR) : g_T1 (s_Hz S v) = g_T1 S := rfl
theorem gs_T1_Df (S : ST) (v : Int32) : g_T1 (s_Df S v) = g_T1 S := rfl
theorem gs_T1_Dl (S : ST) (v : Int32) : g_T1 (s_Dl S v) = g_T1 S := rfl
theorem gs_T2_T1 (S : ST) (v : Int32) : g_T2 (s_T1 S v) = g_T2 S := rfl
theorem gs_T2_T2 (S : ST) (v : Int32) : g_T2 (s_T2 S v) = v := rfl
theorem gs_T2_T3 (S : ST) (v : Int32) : g_T2 (s_T3 S v) = g_T2 S := rfl
theorem gs_T2_N (S : ST) (v : Nat) : g_T2 (s_N S v) = g_T2 S := rfl
theorem gs_T2_Gr (S : ST) (v : FR) : g_T2 (s_Gr S v) = g_T2 S := rfl
theorem gs_T2_St (S : ST) (v : FR) : g_T2 (s_St S v) = g_T2 S := rfl
theorem gs_T2_Rt (S : ST) (v : FR) : g_T2 (s_Rt S v) = g_T2 S := rfl
theorem gs_T2_Sl (S : ST) (v : FR) : g_T2 (s_Sl S v) = g_T2 S := rfl
theorem gs_T2_Hm (S : ST) (v : GR) : g_T2 (s_Hm S v) = g_T2 S := rfl
theorem gs_T2_Of (S : ST) (v : GR) : g_T2 (s_Of S v) = g_T2 S := rfl
theorem gs_T2_Le (S : ST) (v : GR) : g_T2 (s_Le S v) = g_T2 S := rfl
theorem gs_T2_Ss (S : ST) (v : GR) : g_T2 (s_Ss S v) = g_T2 S := rfl
theorem gs_T2_Ho (S : ST) (v : FR) : g_T2 (s_Ho S v) = g_T2 S := rfl
theorem gs_T2_Hs (S : ST) (v : FR) : g_T2 (s_Hs S v) = g_T2 S := rfl
theorem gs_T2_Hz (S : ST) (v : FR) : g_T2 (s_Hz S v) = g_T2 S := rfl
theorem gs_T2_Df (S : ST) (v : Int32) : g_T2 (s_Df S v) = g_T2 S := rfl
theorem gs_T2_Dl (S : ST) (v : Int32) : g_T2 (s_Dl S v) = g_T2 S := rfl
theorem gs_T3_T1 (S : ST) (v : Int32) : g_T3 (s_T1 S v) = g_T3 S := rfl
theorem gs_T3_T2 (S : ST) (v : Int32) : g_T3 (s_T2 S v) = g_T3 S := rfl
theorem gs_T3_T3 (S : ST) (v : Int32) : g_T3 (s_T3 S v) = v := rfl
theorem gs_T3_N (S : ST) (v : Nat) : g_T3 (s_N S v) = g_T3 S := rfl
theorem gs_T3_Gr (S : ST) (v : FR) : g_T3 (s_Gr S v) = g_T3 S := rfl
theorem gs_T3_St (S : ST) (v : FR) : g_T3 (s_St S v) = g_T3 S := rfl
theorem gs_T3_Rt (S : ST) (v : FR) : g_T3 (s_Rt S v) = g_T3 S := rfl
theorem gs_T3_Sl (S : ST) (v : FR) : g_T3 (s_Sl S v) = g_T3 S := rfl
theorem gs_T3_Hm (S : ST) (v : GR) : g_T3 (s_Hm S v) = g_T3 S := rfl
theorem gs_T3_Of (S : ST) (v : GR) : g_T3 (s_Of S v) = g_T3 S := rfl
theorem gs_T3_Le (S : ST) (v : GR) : g_T3 (s_Le S v) = g_T3 S := rfl
theorem gs_T3_Ss (S : ST) (v : GR) : g_T3 (s_Ss S v) = g_T3 S := rfl
theorem gs_T3_Ho (S : ST) (v : FR) : g_T3 (s_Ho S v) = g_T3 S := rfl
theorem gs_T3_Hs (S : ST) (v : FR) : g_T3 (s_Hs S v) = g_T3 S := rfl
theorem gs_T3_Hz (S : ST) (v : FR) : g_T3 (s_Hz S v) = g_T3 S := rfl
theorem gs_T3_Df (S : ST) (v : Int32) : g_T3 (s_Df S v) = g_T3 S := rfl
theorem gs_T3_Dl (S : ST) (v : Int32) : g_T3 (s_Dl S v) = g_T3 S := rfl
theorem gs_N_T1 (S : ST) (v : Int32) : g_N (s_T1 S v) = g_N S := rfl
theorem gs_N_T2 (S : ST) (v : Int32) : g_N (s_T2 S v) = g_N S := rfl
theorem gs_N_T3 (S : ST) (v : Int32) : g_N (s_T3 S v) = g_N S := rfl
theorem gs_N_N (S : ST) (v : Nat) : g_N (s_N S v) = v := rfl
theorem gs_N_Gr (S : ST) (v : FR) : g_N (s_Gr S v) = g_N S := rfl
theorem gs_N_St (S : ST) (v : FR) : g_N (s_St S v) = g_N S := rfl
theorem gs_N_Rt (S : ST) (v : FR) : g_N (s_Rt S v) = g_N S := rfl
theorem gs_N_Sl (S : ST) (v : FR) : g_N (s_Sl S v) = g_N S := rfl
theorem gs_N_Hm (S : ST) (v : GR) : g_N (s_Hm S v) = g_N S := rfl
theorem gs_N_Of (S : ST) (v : GR) : g_N (s_Of S v) = g_N S := rfl
theorem gs_N_Le (S : ST) (v : GR) : g_N (s_Le S v) = g_N S := rfl
theorem gs_N_Ss (S : ST) (v : GR) : g_N (s_Ss S v) = g_N S := rfl
theorem gs_N_Ho (S : ST) (v : FR) : g_N (s_Ho S v) = g_N S := rfl
theorem gs_N_Hs (S : ST) (v : FR) : g_N (s_Hs S v) = g_N S := rfl
theorem gs_N_Hz (S : ST) (v : FR) : g_N (s_Hz S v) = g_N S := rfl
theorem gs_N_Df (S : ST) (v : Int32) : g_N (s_Df S v) = g_N S := rfl
theorem gs_N_Dl (S : ST) (v : Int32) : g_N (s_Dl S v) = g_N S := rfl
theorem gs_Gr_T1 (S : ST) (v : Int32) : g_Gr (s_T1 S v) = g_Gr S := rfl
theorem gs_Gr_T2 (S : ST) (v : Int32) : g_Gr (s_T2 S v) = g_Gr S := rfl
theorem gs_Gr_T3 (S : ST) (v : Int32) : g_Gr (s_T3 S v) = g_Gr S := rfl
theorem gs_Gr_N (S : ST) (v : Nat) : g_Gr (s_N S v) = g_Gr S := rfl
theorem gs_Gr_Gr (S : ST) (v : FR) : g_Gr (s_Gr S v) = v := rfl
theorem gs_Gr_St (S : ST) (v : FR) : g_Gr (s_St S v) = g_Gr S := rfl
theorem gs_Gr_Rt (S : ST) (v : FR) : g_Gr (s_Rt S v) = g_Gr S := rfl
theorem gs_Gr_Sl (S : ST) (v : FR) : g_Gr (s_Sl S v) = g_Gr S := rfl
theorem gs_Gr_Hm (S : ST) (v : GR) : g_Gr (s_Hm S v) = g_Gr S := rfl
theorem gs_Gr_Of (S : ST) (v : GR) : g_Gr (s_Of S v) = g_Gr S := rfl
theorem gs_Gr_Le (S : ST) (v : GR) : g_Gr (s_Le S v) = g_Gr S := rfl
theorem gs_Gr_Ss (S : ST) (v : GR) : g_Gr (s_Ss S v) = g_Gr S := rfl
theorem gs_Gr_Ho (S : ST) (v : FR) : g_Gr (s_Ho S v) = g_Gr S := rfl
theorem gs_Gr_Hs (S : ST) (v : FR) : g_Gr (s_Hs S v) = g_Gr S := rfl
theorem gs_Gr_Hz (S : ST) (v : FR) : g_Gr (s_Hz S v) = g_Gr S := rfl
theorem gs_Gr_Df (S : ST) (v : Int32) : g_Gr (s_Df S v) = g_Gr S := rfl
theorem gs_Gr_Dl (S : ST) (v : Int32) : g_Gr (s_Dl S v) = g_Gr S := rfl
theorem gs_St_T1 (S : ST) (v : Int32) : g_St (s_T1 S v) = g_St S := rfl
theorem gs_St_T2 (S : ST) (v : Int32) : g_St (s_T2 S v) = g_St S := rfl
theorem gs_St_T3 (S : ST) (v : Int32) : g_St (s_T3 S v) = g_St S := rfl
theorem gs_St_N (S : ST) (v : Nat) : g_St (s_N S v) = g_St S := rfl
theorem gs_St_Gr (S : ST) (v : FR) : g_St (s_Gr S v) = g_St S := rfl
theorem gs_St_St (S : ST) (v : FR) : g_St (s_St S v) = v := rfl
theorem gs_St_Rt (S : ST) (v : FR) : g_St (s_Rt S v) = g_St S := rfl
theorem gs_St_Sl (S : ST) (v : FR) : g_St (s_Sl S v) = g_St S := rfl
theorem gs_St_Hm (S : ST) (v : GR) : g_St (s_Hm S v) = g_St S := rfl
theorem gs_St_Of (S : ST) (v : GR) : g_St (s_Of S v) = g_St S := rfl
theorem gs_St_Le (S : ST) (v : GR) : g_St (s_Le S v) = g_St S := rfl
theorem gs_St_Ss (S : ST) (v : GR) : g_St (s_Ss S v) = g_St S := rfl
theorem gs_St_Ho (S : ST) (v : FR) : g_St (s_Ho S v) = g_St S := rfl
theorem gs_St_Hs (S : ST) (v : FR) : g_St (s_Hs S v) = g_St S := rfl
theorem gs_St_Hz (S : ST) (v : FR) : g_St (s_Hz S v) = g_St S := rfl
theorem gs_St_Df (S : ST) (v : Int32) : g_St (s_Df S v) = g_St S := rfl
theorem gs_St_Dl (S : ST) (v : Int32) : g_St (s_Dl S v) = g_St S := rfl
theorem gs_Rt_T1 (S : ST) (v : Int32) : g_Rt (s_T1 S v) = g_Rt S := rfl
theorem gs_Rt_T2 (S : ST) (v : Int32) : g_Rt (s_T2 S v) = g_Rt S := rfl
theorem gs_Rt_T3 (S : ST) (v : Int32) : g_Rt (s_T3 S v) = g_Rt S := rfl
theorem gs_Rt_N (S : ST) (v : Nat) : g_Rt (s_N S v) = g_Rt S := rfl
theorem gs_Rt_Gr (S : ST) (v : FR) : g_Rt (s_Gr S v) = g_Rt S := rfl
theorem gs_Rt_St (S : ST) (v : FR) : g_Rt (s_St S v) = g_Rt S := rfl
theorem gs_Rt_Rt (S : ST) (v : FR) : g_Rt (s_Rt S v) = v := rfl
theorem gs_Rt_Sl (S : ST) (v : FR) : g_Rt (s_Sl S v) = g_Rt S := rfl
theorem gs_Rt_Hm (S : ST) (v : GR) : g_Rt (s_Hm S v) = g_Rt S := rfl
theorem gs_Rt_Of (S : ST) (v : GR) : g_Rt (s_Of S v) = g_Rt S := rfl
theorem gs_Rt_Le (S : ST) (v : GR) : g_Rt (s_Le S v) = g_Rt S := rfl
theorem gs_Rt_Ss (S : ST) (v : GR) : g_Rt (s_Ss S v) = g_Rt S := rfl
theorem gs_Rt_Ho (S : ST) (v : FR) : g_Rt (s_Ho S v) = g_Rt S := rfl
theorem gs_Rt_Hs (S : ST) (v : FR) : g_Rt (s_Hs S v) = g_Rt S := rfl
theorem gs_Rt_Hz (S : ST) (v : FR) : g_Rt (s_Hz S v) = g_Rt S := rfl
theorem gs_Rt_Df (S : ST) (v : Int32) : g_Rt (s_Df S v) = g_Rt S := rfl
theorem gs_Rt_Dl (S : ST) (v : Int32) : g_Rt (s_Dl S v) = g_Rt S := rfl
theorem gs_Sl_T1 (S : ST) (v : Int32) : g_Sl (s_T1 S v) = g_Sl S := rfl
theorem gs_Sl_T2 (S : ST) (v : Int32) : g_Sl (s_T2 S v) = g_Sl S := rfl
theorem gs_Sl_T3 (S : ST) (v : Int32) : g_Sl (s_T3 S v) = g_Sl S := rfl
theorem gs_Sl_N (S : ST) (v : Nat) : g_Sl (s_N S v) = g_Sl S := rfl
theorem gs_Sl_Gr (S : ST) (v : FR) : g_Sl (s_Gr S v) = g_Sl S := rfl
theorem gs_Sl_St (S : ST) (v : FR) : g_Sl (s_St S v) = g_Sl S := rfl
theorem gs_Sl_Rt (S : ST) (v : FR) : g_Sl (s_Rt S v) = g_Sl S := rfl
theorem gs_Sl_Sl (S : ST) (v : FR) : g_Sl (s_Sl S v) = v := rfl
theorem gs_Sl_Hm (S : ST) (v : GR) : g_Sl (s_Hm S v) = g_Sl S := rfl
theorem gs_Sl_Of (S : ST) (v : GR) : g_Sl (s_Of S v) = g_Sl S := rfl
theorem gs_Sl_Le (S : ST) (v : GR) : g_Sl (s_Le S v) = g_Sl S := rfl
theorem gs_Sl_Ss (S : ST) (v : GR) : g_Sl (s_Ss S v) = g_Sl S := rfl
theorem gs_Sl_Ho (S : ST) (v : FR) : g_Sl (s_Ho S v) = g_Sl S := rfl
theorem gs_Sl_Hs (S : ST) (v : FR) : g_Sl (s_Hs S v) = g_Sl S := rfl
theorem gs_Sl_Hz (S : ST) (v : FR) : g_Sl (s_Hz S v) = g_Sl S := rfl
theorem gs_Sl_Df (S : ST) (v : Int32) : g_Sl (s_Df S v) = g_Sl S := rfl
theorem gs_Sl_Dl (S : ST) (v : Int32) : g_Sl (s_Dl S v) = g_Sl S := rfl
theorem gs_Hm_T1 (S : ST) (v : Int32) : g_Hm (s_T1 S v) = g_Hm S := rfl
theorem gs_Hm_T2 (S : ST) (v : Int32) : g_Hm (s_T2 S v) = g_Hm S := rfl
theorem gs_Hm_T3 (S : ST) (v : Int32) : g_Hm (s_T3 S v) = g_Hm S := rfl
theorem gs_Hm_N (S : ST) (v : Nat) : g_Hm (s_N S v) = g_Hm S := rfl
theorem gs_Hm_Gr (S : ST) (v : FR) : g_Hm (s_Gr S v) = g_Hm S := rfl
theorem gs_Hm_St (S : ST) (v : FR) : g_Hm (s_St S v) = g_Hm S := rfl
theorem gs_Hm_Rt (S : ST) (v : FR) : g_Hm (s_Rt S v) = g_Hm S := rfl
theorem gs_Hm_Sl (S : ST) (v : FR) : g_Hm (s_Sl S v) = g_Hm S := rfl
theorem gs_Hm_Hm (S : ST) (v : GR) : g_Hm (s_Hm S v) = v := rfl
theorem gs_Hm_Of (S : ST) (v : GR) : g_Hm (s_Of S v) = g_Hm S := rfl
theorem gs_Hm_Le (S : ST) (v : GR) : g_Hm (s_Le S v) = g_Hm S := rfl
theorem gs_Hm_Ss (S : ST) (v : GR) : g_Hm (s_Ss S v) = g_Hm S := rfl
theorem gs_Hm_Ho (S : ST) (v : FR) : g_Hm (s_Ho S v) = g_Hm S := rfl
theorem gs_Hm_Hs (S : ST) (v : FR) : g_Hm (s_Hs S v) = g_Hm S := rfl
theorem gs_Hm_Hz (S : ST) (v : FR) : g_Hm (s_Hz S v) = g_Hm S := rfl
theorem gs_Hm_Df (S : ST) (v : Int32) : g_Hm (s_Df S v) = g_Hm S := rfl
theorem gs_Hm_Dl (S : ST) (v : Int32) : g_Hm (s_Dl S v) = g_Hm S := rfl
theorem gs_Of_T1 (S : ST) (v : Int32) : g_Of (s_T1 S v) = g_Of S := rfl
theorem gs_Of_T2 (S : ST) (v : Int32) : g_Of (s_T2 S v) = g_Of S := rfl
theorem gs_Of_T3 (S : ST) (v : Int32) : g_Of (s_T3 S v) = g_Of S := rfl
theorem gs_Of_N (S : ST) (v : Nat) : g_Of (s_N S v) = g_Of S := rfl
theorem gs_Of_Gr (S : ST) (v : FR) : g_Of (s_Gr S v) = g_Of S := rfl
theorem gs_Of_St (S : ST) (v : FR) : g_Of (s_St S v) = g_Of S := rfl
theorem gs_Of_Rt (S : ST) (v : FR) : g_Of (s_Rt S v) = g_Of S := rfl
theorem gs_Of_Sl (S : ST) (v : FR) : g_Of (s_Sl S v) = g_Of S := rfl
theorem gs_Of_Hm (S : ST) (v : GR) : g_Of (s_Hm S v) = g_Of S := rfl
theorem gs_Of_Of (S : ST) (v : GR) : g_Of (s_Of S v) = v := rfl
theorem gs_Of_Le (S : ST) (v : GR) : g_Of (s_Le S v) = g_Of S := rfl
theorem gs_Of_Ss (S : ST) (v : GR) : g_Of (s_Ss S v) = g_Of S := rfl
theorem gs_Of_Ho (S : ST) (v : FR) : g_Of (s_Ho S v) = g_Of S := rfl
theorem gs_Of_Hs (S : ST) (v : FR) : g_Of (s_Hs S v) = g_Of S := rfl
theorem gs_Of_Hz (S : ST) (v : FR) : g_Of (s_Hz S v) = g_Of S := rfl
theorem gs_Of_Df (S : ST) (v : Int32) : g_Of (s_Df S v) = g_Of S := rfl
theorem gs_Of_Dl (S : ST) (v : Int32) : g_Of (s_Dl S v) = g_Of S := rfl
theorem gs_Le_T1 (S : ST) (v : Int32) : g_Le (s_T1 S v) = g_Le S := rfl
theorem gs_Le_T2 (S : ST) (v : Int32) : g_Le (s_T2 S v) = g_Le S := rfl
theorem gs_Le_T3 (S : ST) (v : Int32) : g_Le (s_T3 S v) = g_Le S := rfl
theorem gs_Le_N (S : ST) (v : Nat) : g_Le (s_N S v) = g_Le S := rfl
theorem gs_Le_Gr (S : ST) (v : FR) : g_Le (s_Gr S v) = g_Le S := rfl
theorem gs_Le_St (S : ST) (v : FR) : g_Le (s_St S v) = g_Le S := rfl
theorem gs_Le_Rt (S : ST) (v : FR) : g_Le (s_Rt S v) = g_Le S := rfl
theorem gs_Le_Sl (S : ST) (v : FR) : g_Le (s_Sl S v) = g_Le S := rfl
theorem gs_Le_Hm (S : ST) (v : GR) : g_Le (s_Hm S v) = g_Le S := rfl
theorem gs_Le_Of (S : ST) (v : GR) : g_Le (s_Of S v) = g_Le S := rfl
theorem gs_Le_Le (S : ST) (v : GR) : g_Le (s_Le S v) = v := rfl
theorem gs_Le_Ss (S : ST) (v : GR) : g_Le (s_Ss S v) = g_Le S := rfl
theorem gs_Le_Ho (S : ST) (v : FR) : g_Le (s_Ho S v) = g_Le S := rfl
theorem gs_Le_Hs (S : ST) (v : FR) : g_Le (s_Hs S v) = g_Le S := rfl
theorem gs_Le_Hz (S : ST) (v : FR) : g_Le (s_Hz S v) = g_Le S := rfl
theorem gs_Le_Df (S : ST) (v : Int32) : g_Le (s_Df S v) = g_Le S := rfl
theorem gs_Le_Dl (S : ST) (v : Int32) : g_Le (s_Dl S v) = g_Le S := rfl
theorem gs_Ss_T1 (S : ST) (v : Int32) : g_Ss (s_T1 S v) = g_Ss S := rfl
theorem gs_Ss_T2 (S : ST) (v : Int32) : g_Ss (s_T2 S v) = g_Ss S := rfl
theorem gs_Ss_T3 (S : ST) (v : Int32) : g_Ss (s_T3 S v) = g_Ss S := rfl
theorem gs_Ss_N (S : ST) (v : Nat) : g_Ss (s_N S v) = g_Ss S := rfl
theorem gs_Ss_Gr (S : ST) (v : FR) : g_Ss (s_Gr S v) = g_Ss S := rfl
theorem gs_Ss_St (S : ST) (v : FR) : g_Ss (s_St S v) = g_Ss S := rfl
theorem gs_Ss_Rt (S : ST) (v : FR) : g_Ss (s_Rt S v) = g_Ss S := rfl
theorem gs_Ss_Sl (S : ST) (v : FR) : g_Ss (s_Sl S v) = g_Ss S := rfl
theorem gs_Ss_Hm (S : ST) (v : GR) : g_Ss (s_Hm S v) = g_Ss S := rfl
theorem gs_Ss_Of (S : ST) (v : GR) : g_Ss (s_Of S v) = g_Ss S := rfl
theorem gs_Ss_Le (S : ST) (v : GR) : g_Ss (s_Le S v) = g_Ss S := rfl
theorem gs_Ss_Ss (S : ST) (v : GR) : g_Ss (s_Ss S v) = v := rfl
theorem gs_Ss_Ho (S : ST) (v : FR) : g_Ss (s_Ho S v) = g_Ss S := rfl
theorem gs_Ss_Hs (S : ST) (v : FR) : g_Ss (s_Hs S v) = g_Ss S := rfl
theorem gs_Ss_Hz (S : ST) (v : FR) : g_Ss (s_Hz S v) = g_Ss S := rfl
theorem gs_Ss_Df (S : ST) (v : Int32) : g_Ss (s_Df S v) = g_Ss S := rfl
theorem gs_Ss_Dl (S : ST) (v : Int32) : g_Ss (s_Dl S v) = g_Ss S := rfl
theorem gs_Ho_T1 (S : ST) (v : Int32) : g_Ho (s_T1 S v) = g_Ho S := rfl
theorem gs_Ho_T2 (S : ST) (v : Int32) : g_Ho (s_T2 S v) = g_Ho S := rfl
theorem gs_Ho_T3 (S : ST) (v : Int32) : g_Ho (s_T3 S v) = g_Ho S := rfl
theorem gs_Ho_N (S : ST) (v : Nat) : g_Ho (s_N S v) = g_Ho S := rfl
theorem gs_Ho_Gr (S : ST) (v : FR) : g_Ho (s_Gr S v) = g_Ho S := rfl
theorem gs_Ho_St (S : ST) (v : FR) : g_Ho (s_St S v) = g_Ho S := rfl
theorem gs_Ho_Rt (S : ST) (v : FR) : g_Ho (s_Rt S v) = g_Ho S := rfl
theorem gs_Ho_Sl (S : ST) (v : FR) : g_Ho (s_Sl S v) = g_Ho S := rfl
theorem gs_Ho_Hm (S : ST) (v : GR) : g_Ho (s_Hm S v) = g_Ho S := rfl
theorem gs_Ho_Of (S : ST) (v : GR) : g_Ho (s_Of S v) = g_Ho S := rfl
theorem gs_Ho_Le (S : ST) (v : GR) : g_Ho (s_Le S v) = g_Ho S := rfl
theorem gs_Ho_Ss (S : ST) (v : GR) : g_Ho (s_Ss S v) = g_Ho S := rfl
theorem gs_Ho_Ho (S : ST) (v : FR) : g_Ho (s_Ho S v) = v := rfl
theorem gs_Ho_Hs (S : ST) (v : FR) : g_Ho (s_Hs S v) = g_Ho S := rfl
theorem gs_Ho_Hz (S : ST) (v : FR) : g_Ho (s_Hz S v) = g_Ho S := rfl
theorem gs_Ho_Df (S : ST) (v : Int32) : g_Ho (s_Df S v) = g_Ho S := rfl
theorem gs_Ho_Dl (S : ST) (v : Int32) : g_Ho (s_Dl S v) = g_Ho S := rfl
theorem gs_Hs_T1 (S : ST) (v : Int32) : g_Hs (s_T1 S v) = g_Hs S := rfl
theorem gs_Hs_T2 (S : ST) (v : Int32) : g_Hs (s_T2 S v) = g_Hs S := rfl
theorem gs_Hs_T3 (S : ST) (v : Int32) : g_Hs (s_T3 S v) = g_Hs S := rfl
theorem gs_Hs_N (S : ST) (v : Nat) : g_Hs (s_N S v) = g_Hs S := rfl
theorem gs_Hs_Gr (S : ST) (v : FR) : g_Hs (s_Gr S v) = g_Hs S := rfl
theorem gs_Hs_St (S : ST) (v : FR) : g_Hs (s_St S v) = g_Hs S := rfl
theorem gs_Hs_Rt (S : ST) (v : FR) : g_Hs (s_Rt S v) = g_Hs S := rfl
theorem gs_Hs_Sl (S : ST) (v : FR) : g_Hs (s_Sl S v) = g_Hs S := rfl
theorem gs_Hs_Hm (S : ST) (v : GR) : g_Hs (s_Hm S v) = g_Hs S := rfl
theorem gs_Hs_Of (S : ST) (v : GR) : g_Hs (s_Of S v) = g_Hs S := rfl
theorem gs_Hs_Le (S : ST) (v : GR) : g_Hs (s_Le S v) = g_Hs S := rfl
theorem gs_Hs_Ss (S : ST) (v : GR) : g_Hs (s_Ss S v) = g_Hs S := rfl
theorem gs_Hs_Ho (S : ST) (v : FR) : g_Hs (s_Ho S v) = g_Hs S := rfl
theorem gs_Hs_Hs (S : ST) (v : FR) : g_Hs (s_Hs S v) = v := rfl
theorem gs_Hs_Hz (S : ST) (v : FR) : g_Hs (s_Hz S v) = g_Hs S := rfl
theorem gs_Hs_Df (S : ST) (v : Int32) : g_Hs (s_Df S v) = g_Hs S := rfl
theorem gs_Hs_Dl (S : ST) (v : Int32) : g_Hs (s_Dl S v) = g_Hs S := rfl
theorem gs_Hz_T1 (S : ST) (v : Int32) : g_Hz (s_T1 S v) = g_Hz S := rfl
theorem gs_Hz_T2 (S : ST) (v : Int32) : g_Hz (s_T2 S v) = g_Hz S := rfl
theorem gs_Hz_T3 (S : ST) (v : Int32) : g_Hz (s_T3 S v) = g_Hz S := rfl
theorem gs_Hz_N (S : ST) (v : Nat) : g_Hz (s_N S v) = g_Hz S := rfl
theorem gs_Hz_Gr (S : ST) (v : FR) : g_Hz (s_Gr S v) = g_Hz S := rfl
theorem gs_Hz_St (S : ST) (v : FR) : g_Hz (s_St S v) = g_Hz S := rfl
theorem gs_Hz_Rt (S : ST) (v : FR) : g_Hz (s_Rt S v) = g_Hz S := rfl
theorem gs_Hz_Sl (S : ST) (v : FR) : g_Hz (s_Sl S v) = g_Hz S := rfl
theorem gs_Hz_Hm (S : ST) (v : GR) : g_Hz (s_Hm S v) = g_Hz S := rfl
theorem gs_Hz_Of (S : ST) (v : GR) : g_Hz (s_Of S v) = g_Hz S := rfl
theorem gs_Hz_Le (S : ST) (v : GR) : g_Hz (s_Le S v) = g_Hz S := rfl
theorem gs_Hz_Ss (S : ST) (v : GR) : g_Hz (s_Ss S v) = g_Hz S := rfl
theorem gs_Hz_Ho (S : ST) (v : FR) : g_Hz (s_Ho S v) = g_Hz S := rfl
theorem gs_Hz_Hs (S : ST) (v : FR) : g_Hz (s_Hs S v) = g_Hz S := rfl
theorem gs_Hz_Hz (S : ST) (v : FR) : g_Hz (s_Hz S v) = v := rfl
theorem gs_Hz_Df (S : ST) (v : Int32) : g_Hz (s_Df S v) = g_Hz S := rfl
theorem gs_Hz_Dl (S : ST) (v : Int32) : g_Hz (s_Dl S v) = g_Hz S := rfl
theorem gs_Df_T1 (S : ST) (v : Int32) : g_Df (s_T1 S v) = g_Df S := rfl
theorem gs_Df_T2 (S : ST) (v : Int32) : g_Df (s_T2 S v) = g_Df S := rfl
theorem gs_Df_T3 (S : ST) (v : Int32) : g_Df (s_T3 S v) = g_Df S := rfl
theorem gs_Df_N (S : ST) (v : Nat) : g_Df (s_N S v) = g_Df S := rfl
theorem gs_Df_Gr (S : ST) (v : FR) : g_Df (s_Gr S v) = g_Df S := rfl
theorem gs_Df_St (S : ST) (v : FR) : g_Df (s_St S v) = g_Df S := rfl
theorem gs_Df_Rt (S : ST) (v : FR) : g_Df (s_Rt S v) = g_Df S := rfl
theorem gs_Df_Sl (S : ST) (v : FR) : g_Df (s_Sl S v) = g_Df S := rfl
theorem gs_Df_Hm (S : ST) (v : GR) : g_Df (s_Hm S v) = g_Df S := rfl
theorem gs_Df_Of (S : ST) (v : GR) : g_Df (s_Of S v) = g_Df S := rfl
theorem gs_Df_Le (S : ST) (v : GR) : g_Df (s_Le S v) = g_Df S := rfl
theorem gs_Df_Ss (S : ST) (v : GR) : g_Df (s_Ss S v) = g_Df S := rfl
theorem gs_Df_Ho (S : ST) (v : FR) : g_Df (s_Ho S v) = g_Df S := rfl
theorem gs_Df_Hs (S : ST) (v : FR) : g_Df (s_Hs S v) = g_Df S := rfl
theorem gs_Df_Hz (S : ST) (v : FR) : g_Df (s_Hz S v) = g_Df S := rfl
theorem gs_Df_Df (S : ST) (v : Int32) : g_Df (s_Df S v) = v := rfl
theorem gs_Df_Dl (S : ST) (v : Int32) : g_Df (s_Dl S v) = g_Df S := rfl
theorem gs_Dl_T1 (S : ST) (v : Int32) : g_Dl (s_T1 S v) = g_Dl S := rfl
theorem gs_Dl_T2 (S : ST) (v : Int32) : g_Dl (s_T2 S v) = g_Dl S := rfl
theorem gs_Dl_T3 (S : ST) (v : Int32) : g_Dl (s_T3 S v) = g_Dl S := rfl
theorem gs_Dl_N (S : ST) (v : Nat) : g_Dl (s_N S v) = g_Dl S := rfl
theorem gs_Dl_Gr (S : ST) (v : FR) : g_Dl (s_Gr S v) = g_Dl S := rfl
theorem gs_Dl_St (S : ST) (v : FR) : g_Dl (s_St S v) = g_Dl S := rfl
theorem gs_Dl_Rt (S : ST) (v : FR) : g_Dl (s_Rt S v) = g_Dl S := rfl
theorem gs_Dl_Sl (S : ST) (v : FR) : g_Dl (s_Sl S v) = g_Dl S := rfl
theorem gs_Dl_Hm (S : ST) (v : GR) : g_Dl (s_Hm S v) = g_Dl S := rfl
theorem gs_Dl_Of (S : ST) (v : GR) : g_Dl (s_Of S v) = g_Dl S := rfl
theorem gs_Dl_Le (S : ST) (v : GR) : g_Dl (s_Le S v) = g_Dl S := rfl
theorem gs_Dl_Ss (S : ST) (v : GR) : g_Dl (s_Ss S v) = g_Dl S := rfl
theorem gs_Dl_Ho (S : ST) (v : FR) : g_Dl (s_Ho S v) = g_Dl S := rfl
theorem gs_Dl_Hs (S : ST) (v : FR) : g_Dl (s_Hs S v) = g_Dl S := rfl
theorem gs_Dl_Hz (S : ST) (v : FR) : g_Dl (s_Hz S v) = g_Dl S := rfl
theorem gs_Dl_Df (S : ST) (v : Int32) : g_Dl (s_Df S v) = g_Dl S := rfl
theorem gs_Dl_Dl (S : ST) (v : Int32) : g_Dl (s_Dl S v) = v := rfl
def mF (md : Nat → Nat) (S : ST) : List Value := [.int (g_T1 S), .int (g_T2 S), .int (g_T3 S), .int (nI (g_N S)), .ref (md 1), .ref (md 2), .ref (md 3), .ref (md 4), .ref (md 5), .ref (md 6), .ref (md 7), .ref (md 8), .ref (md 9), .ref (md 10), .int (g_Df S), .int (g_Dl S)]
theorem mO (cI cZ : ClassId) (md : Nat → Nat) (S : ST) : (mW cI cZ md S)[0]? = some (md 0, .inr (2, mF md S)) := rfl
theorem mG_Gr (cI cZ : ClassId) (md : Nat → Nat) (S : ST) : (mW cI cZ md S)[1]? = some (md 1, .inl (cZ, 5, .inl ((g_Gr S)))) := rfl
theorem mS_Gr (cI cZ : ClassId) (md : Nat → Nat) (S : ST) (L : FR) : (mW cI cZ md S).set 1 (md 1, .inl (cZ, 5, .inl (L))) = mW cI cZ md (s_Gr S L) := rfl
theorem mG_St (cI cZ : ClassId) (md : Nat → Nat) (S : ST) : (mW cI cZ md S)[2]? = some (md 2, .inl (cI, 5, .inl ((g_St S)))) := rfl
theorem mS_St (cI cZ : ClassId) (md : Nat → Nat) (S : ST) (L : FR) : (mW cI cZ md S).set 2 (md 2, .inl (cI, 5, .inl (L))) = mW cI cZ md (s_St S L) := rfl
theorem mG_Rt (cI cZ : ClassId) (md : Nat → Nat) (S : ST) : (mW cI cZ md S)[3]? = some (md 3, .inl (cI, 5, .inl ((g_Rt S)))) := rfl
theorem mS_Rt (cI cZ : ClassId) (md : Nat → Nat) (S : ST) (L : FR) : (mW cI cZ md S).set 3 (md 3, .inl (cI, 5, .inl (L))) = mW cI cZ md (s_Rt S L) := rfl
theorem mG_Sl (cI cZ : ClassId) (md : Nat → Nat) (S : ST) : (mW cI cZ md S)[4]? = some (md 4, .inl (cI, 5, .inl ((g_Sl S)))) := rfl
theorem mS_Sl (cI cZ : ClassId) (md : Nat → Nat) (S : ST) (L : FR) : (mW cI cZ md S).set 4 (md 4, .inl (cI, 5, .inl (L))) = mW cI cZ md (s_Sl S L) := rfl
theorem mG_Hm (cI cZ : ClassId) (md : Nat → Nat) (S : ST) : (mW cI cZ md S)[5]? = some (md 5, .inl (cZ, 10, .inl (fl 2 (g_Hm S)))) := rfl
theorem mS_Hm (cI cZ : ClassId) (md : Nat → Nat) (S : ST) (L : GR) : (mW cI cZ md S).set 5 (md 5, .inl (cZ, 10, .inl (fl 2 L))) = mW cI cZ md (s_Hm S L) := rfl
theorem mG_Of (cI cZ : ClassId) (md : Nat → Nat) (S : ST) : (mW cI cZ md S)[6]? = some (md 6, .inl (cI, 80, .inl (fl 16 (g_Of S)))) := rfl
theorem mS_Of (cI cZ : ClassId) (md : Nat → Nat) (S : ST) (L : GR) : (mW cI cZ md S).set 6 (md 6, .inl (cI, 80, .inl (fl 16 L))) = mW cI cZ md (s_Of S L) := rfl
theorem mG_Le (cI cZ : ClassId) (md : Nat → Nat) (S : ST) : (mW cI cZ md S)[7]? = some (md 7, .inl (cI, 80, .inl (fl 16 (g_Le S)))) := rfl
theorem mS_Le (cI cZ : ClassId) (md : Nat → Nat) (S : ST) (L : GR) : (mW cI cZ md S).set 7 (md 7, .inl (cI, 80, .inl (fl 16 L))) = mW cI cZ md (s_Le S L) := rfl
theorem mG_Ss (cI cZ : ClassId) (md : Nat → Nat) (S : ST) : (mW cI cZ md S)[8]? = some (md 8, .inl (cZ, 80, .inl (fl 16 (g_Ss S)))) := rfl
theorem mS_Ss (cI cZ : ClassId) (md : Nat → Nat) (S : ST) (L : GR) : (mW cI cZ md S).set 8 (md 8, .inl (cZ, 80, .inl (fl 16 L))) = mW cI cZ md (s_Ss S L) := rfl
theorem mG_Ho (cI cZ : ClassId) (md : Nat → Nat) (S : ST) : (mW cI cZ md S)[9]? = some (md 9, .inl (cI, 16, .inl ((g_Ho S)))) := rfl
theorem mS_Ho (cI cZ : ClassId) (md : Nat → Nat) (S : ST) (L : FR) : (mW cI cZ md S).set 9 (md 9, .inl (cI, 16, .inl (L))) = mW cI cZ md (s_Ho S L) := rfl
theorem mG_Hz (cI cZ : ClassId) (md : Nat → Nat) (S : ST) : (mW cI cZ md S)[10]? = some (md 10, .inl (cZ, 16, .inl ((g_Hz S)))) := rfl
theorem mS_Hz (cI cZ : ClassId) (md : Nat → Nat) (S : ST) (L : FR) : (mW cI cZ md S).set 10 (md 10, .inl (cZ, 16, .inl (L))) = mW cI cZ md (s_Hz S L) := rfl
theorem mP_T1 (cI cZ : ClassId) (md : Nat → Nat) (S : ST) (v : Int32) : (mW cI cZ md S).set 0 (md 0, .inr (2, (mF md S).set 0 (.int v))) = mW cI cZ md (s_T1 S v) := rfl
theorem mP_T2 (cI cZ : ClassId) (md : Nat → Nat) (S : ST) (v : Int32) : (mW cI cZ md S).set 0 (md 0, .inr (2, (mF md S).set 1 (.int v))) = mW cI cZ md (s_T2 S v) := rfl
theorem mP_T3 (cI cZ : ClassId) (md : Nat → Nat) (S : ST) (v : Int32) : (mW cI cZ md S).set 0 (md 0, .inr (2, (mF md S).set 2 (.int v))) = mW cI cZ md (s_T3 S v) := rfl
theorem mP_Df (cI cZ : ClassId) (md : Nat → Nat) (S : ST) (v : Int32) : (mW cI cZ md S).set 0 (md 0, .inr (2, (mF md S).set 14 (.int v))) = mW cI cZ md (s_Df S v) := rfl
theorem mP_Dl (cI cZ : ClassId) (md : Nat → Nat) (S : ST) (v : Int32) : (mW cI cZ md S).set 0 (md 0, .inr (2, (mF md S).set 15 (.int v))) = mW cI cZ md (s_Dl S v) := rfl
theorem mP_N (cI cZ : ClassId) (md : Nat → Nat) (S : ST) (v : Nat) : (mW cI cZ md S).set 0 (md 0, .inr (2, (mF md S).set 3 (.int (nI v)))) = mW cI cZ md (s_N S v) := rfl
theorem mS_HzHs (cI cZ : ClassId) (md : Nat → Nat) (S : ST) (V L : FR) : (mW cI cZ md S).set 10 (md 10, .inl (cZ, 16, .inl L)) = mW cI cZ md (s_Hz (s_Hs S V) L) := rfl
theorem mW_Hs (cI cZ : ClassId) (md : Nat → Nat) (S : ST) (V : FR) : mW cI cZ md (s_Hs S V) = mW cI cZ md S := rfl
theorem mAdr (cI cZ : ClassId) (md : Nat → Nat) (S : ST) (S1 : ST) : (mW cI cZ md S1).map (·.1) = (mW cI cZ md S).map (·.1) := rfl
theorem mV_T1 (md : Nat → Nat) (S : ST) : (mF md S)[0]? = some (.int (g_T1 S)) := rfl
theorem mV_T2 (md : Nat → Nat) (S : ST) : (mF md S)[1]? = some (.int (g_T2 S)) := rfl
theorem mV_T3 (md : Nat → Nat) (S : ST) : (mF md S)[2]? = some (.int (g_T3 S)) := rfl
theorem mV_Df (md : Nat → Nat) (S : ST) : (mF md S)[14]? = some (.int (g_Df S)) := rfl
theorem mV_Dl (md : Nat → Nat) (S : ST) : (mF md S)[15]? = some (.int (g_Dl S)) := rfl
theorem mV_N (md : Nat → Nat) (S : ST) : (mF md S)[3]? = some (.int (nI (g_N S))) := rfl
theorem mV_4 (md : Nat → Nat) (S : ST) : (mF md S)[4]? = some (.ref (md 1)) := rfl
theorem mV_5 (md : Nat → Nat) (S : ST) : (mF md S)[5]? = some (.ref (md 2)) := rfl
theorem mV_6 (md : Nat → Nat) (S : ST) : (mF md S)[6]? = some (.ref (md 3)) := rfl
theorem mV_7 (md : Nat → Nat) (S : ST) : (mF md S)[7]? = some (.ref (md 4)) := rfl
theorem mV_8 (md : Nat → Nat) (S : ST) : (mF md S)[8]? = some (.ref (md 5)) := rfl
theorem mV_9 (md : Nat → Nat) (S : ST) : (mF md S)[9]? = some (.ref (md 6)) := rfl
theorem mV_10 (md : Nat → Nat) (S : ST) : (mF md S)[10]? = some (.ref (md 7)) := rfl
theorem mV_11 (md : Nat → Nat) (S : ST) : (mF md S)[11]? = some (.ref (md 8)) := rfl
theorem mV_12 (md : Nat → Nat) (S : ST) : (mF md S)[12]? = some (.ref (md 9)) := rfl
theorem mV_13 (md : Nat → Nat) (S : ST) : (mF md S)[13]? = some (.ref (md 10)) := rfl
def xF (ad : Nat → Nat) (S : ST) : List Value := [.ref (ad 1), .ref (ad 2), .ref (ad 3), .int (nI (g_N S)), .int (g_T1 S), .int (g_T2 S), .int (g_T3 S), .int (g_Df S), .int (g_Dl S)]
theorem xO (cI cZ cP : ClassId) (ad : Nat → Nat) (pd : Nat → Nat → Nat) (S : ST) : (xW cI cZ cP ad pd S)[0]? = some (ad 0, .inr (1, xF ad S)) := rfl
theorem xG_P (cI cZ cP : ClassId) (ad : Nat → Nat) (pd : Nat → Nat → Nat) (S : ST) : (xW cI cZ cP ad pd S)[1]? = some (ad 1, .inl (cP, 5, .inr (.inr (.inr (.inr (xR pd (g_N S))))))) := rfl
theorem xG_Ho (cI cZ cP : ClassId) (ad : Nat → Nat) (pd : Nat → Nat → Nat) (S : ST) : (xW cI cZ cP ad pd S)[2]? = some (ad 2, .inl (cI, 16, .inl (g_Ho S))) := rfl
theorem xG_Hs (cI cZ cP : ClassId) (ad : Nat → Nat) (pd : Nat → Nat → Nat) (S : ST) : (xW cI cZ cP ad pd S)[3]? = some (ad 3, .inl (cZ, 16, .inl (g_Hs S))) := rfl
theorem xS_Ho (cI cZ cP : ClassId) (ad : Nat → Nat) (pd : Nat → Nat → Nat) (S : ST) (L : FR) : (xW cI cZ cP ad pd S).set 2 (ad 2, .inl (cI, 16, .inl L)) = xW cI cZ cP ad pd (s_Ho S L) := rfl
theorem xS_Hs (cI cZ cP : ClassId) (ad : Nat → Nat) (pd : Nat → Nat → Nat) (S : ST) (L : FR) : (xW cI cZ cP ad pd S).set 3 (ad 3, .inl (cZ, 16, .inl L)) = xW cI cZ cP ad pd (s_Hs S L) := rfl
theorem xS_HsHz (cI cZ cP : ClassId) (ad : Nat → Nat) (pd : Nat → Nat → Nat) (S : ST) (V L : FR) : (xW cI cZ cP ad pd S).set 3 (ad 3, .inl (cZ, 16, .inl L)) = xW cI cZ cP ad pd (s_Hz (s_Hs S L) V) := rfl
theorem xW_Hz (cI cZ cP : ClassId) (ad : Nat → Nat) (pd : Nat → Nat → Nat) (S : ST) (V : FR) : xW cI cZ cP ad pd (s_Hz S V) = xW cI cZ cP ad pd S := rfl
theorem xP_T1 (cI cZ cP : ClassId) (ad : Nat → Nat) (pd : Nat → Nat → Nat) (S : ST) (v : Int32) : (xW cI cZ cP ad pd S).set 0 (ad 0, .inr (1, (xF ad S).set 4 (.int v))) = xW cI cZ cP ad pd (s_T1 S v) := rfl
theorem xV_T1 (ad : Nat → Nat) (S : ST) : (xF ad S)[4]? = some (.int (g_T1 S)) := rfl
theorem xP_T2 (cI cZ cP : ClassId) (ad : Nat → Nat) (pd : Nat → Nat → Nat) (S : ST) (v : Int32) : (xW cI cZ cP ad pd S).set 0 (ad 0, .inr (1, (xF ad S).set 5 (.int v))) = xW cI cZ cP ad pd (s_T2 S v) := rfl
theorem xV_T2 (ad : Nat → Nat) (S : ST) : (xF ad S)[5]? = some (.int (g_T2 S)) := rfl
theorem xP_T3 (cI cZ cP : ClassId) (ad : Nat → Nat) (pd : Nat → Nat → Nat) (S : ST) (v : Int32) : (xW cI cZ cP ad pd S).set 0 (ad 0, .inr (1, (xF ad S).set 6 (.int v))) = xW cI cZ cP ad pd (s_T3 S v) := rfl
theorem xV_T3 (ad : Nat → Nat) (S : ST) : (xF ad S)[6]? = some (.int (g_T3 S)) := rfl
theorem xP_Df (cI cZ cP : ClassId) (ad : Nat → Nat) (pd : Nat → Nat → Nat) (S : ST) (v : Int32) : (xW cI cZ cP ad pd S).set 0 (ad 0, .inr (1, (xF ad S).set 7 (.int v))) = xW cI cZ cP ad pd (s_Df S v) := rfl
theorem xV_Df (ad : Nat → Nat) (S : ST) : (xF ad S)[7]? = some (.int (g_Df S)) := rfl
theorem xP_Dl (cI cZ cP : ClassId) (ad : Nat → Nat) (pd : Nat → Nat → Nat) (S : ST) (v : Int32) : (xW cI cZ cP ad pd S).set 0 (ad 0, .inr (1, (xF ad S).set 8 (.int v))) = xW cI cZ cP ad pd (s_Dl S v) := rfl
theorem xV_Dl (ad : Nat → Nat) (S : ST) : (xF ad S)[8]? = some (.int (g_Dl S)) := rfl
theorem xV_N (ad : Nat → Nat) (S : ST) : (xF ad S)[3]? = some (.int (nI (g_N S))) := rfl
theorem xV_0 (ad : Nat → Nat) (S : ST) : (xF ad S)[0]? = some (.ref (ad 1)) := rfl
theorem xV_1 (ad : Nat → Nat) (S : ST) : (xF ad S)[1]? = some (.ref (ad 2)) := rfl
theorem xV_2 (ad : Nat → Nat) (S : ST) : (xF ad S)[2]? = some (.ref (ad 3)) := rfl
def pF (pd : Nat → Nat → Nat) (S : ST) (k : Nat) : List Value := [.int (g_Gr S k), .ref (pd k 1), .ref (pd k 2), .ref (pd k 3), .int (g_St S k), .int (g_Rt S k), .int (g_Sl S k), .int (mkI (g_Hm S k))]
theorem yO (cI cZ cP : ClassId) (ad : Nat → Nat) (pd : Nat → Nat → Nat) (S : ST) {k : Nat} (hk : k < g_N S) : (xW cI cZ cP ad pd S)[4 + (4 * k + 0)]? = some (pd k 0, .inr (0, pF pd S k)) := xW_get hk 0 (by decide) rfl
theorem yG_Of (cI cZ cP : ClassId) (ad : Nat → Nat) (pd : Nat → Nat → Nat) (S : ST) {k : Nat} (hk : k < g_N S) : (xW cI cZ cP ad pd S)[4 + (4 * k + 1)]? = some (pd k 1, .inl (cI, 16, .inl (g_Of S k))) := xW_get hk 1 (by decide) rfl
theorem yG_Le (cI cZ cP : ClassId) (ad : Nat → Nat) (pd : Nat → Nat → Nat) (S : ST) {k : Nat} (hk : k < g_N S) : (xW cI cZ cP ad pd S)[4 + (4 * k + 2)]? = some (pd k 2, .inl (cI, 16, .inl (g_Le S k))) := xW_get hk 2 (by decide) rfl
theorem yG_Ss (cI cZ cP : ClassId) (ad : Nat → Nat) (pd : Nat → Nat → Nat) (S : ST) {k : Nat} (hk : k < g_N S) : (xW cI cZ cP ad pd S)[4 + (4 * k + 3)]? = some (pd k 3, .inl (cZ, 16, .inl (g_Ss S k))) := xW_get hk 3 (by decide) rfl
theorem yV_0 (pd : Nat → Nat → Nat) (S : ST) (k : Nat) : (pF pd S k)[0]? = some (.int (g_Gr S k)) := rfl
theorem yV_1 (pd : Nat → Nat → Nat) (S : ST) (k : Nat) : (pF pd S k)[1]? = some (.ref (pd k 1)) := rfl
theorem yV_2 (pd : Nat → Nat → Nat) (S : ST) (k : Nat) : (pF pd S k)[2]? = some (.ref (pd k 2)) := rfl
theorem yV_3 (pd : Nat → Nat → Nat) (S : ST) (k : Nat) : (pF pd S k)[3]? = some (.ref (pd k 3)) := rfl
theorem yV_4 (pd : Nat → Nat → Nat) (S : ST) (k : Nat) : (pF pd S k)[4]? = some (.int (g_St S k)) := rfl
theorem yV_5 (pd : Nat → Nat → Nat) (S : ST) (k : Nat) : (pF pd S k)[5]? = some (.int (g_Rt S k)) := rfl
theorem yV_6 (pd : Nat → Nat → Nat) (S : ST) (k : Nat) : (pF pd S k)[6]? = some (.int (g_Sl S k)) := rfl
theorem yV_7 (pd : Nat → Nat → Nat) (S : ST) (k : Nat) : (pF pd S k)[7]? = some (.int (mkI (g_Hm S k))) := rfl
/-- states that differ at one peer's rows and numbers alone -/
theorem xOne_of {cI cZ : ClassId} {pd : Nat → Nat → Nat} {S S1 : ST} {k : Nat} (hN : g_N S1 = g_N S) (h1 : g_T1 S1 = g_T1 S) (h2 : g_T2 S1 = g_T2 S) (h3 : g_T3 S1 = g_T3 S) (h4 : g_Df S1 = g_Df S) (h5 : g_Dl S1 = g_Dl S) (h6 : g_Ho S1 = g_Ho S) (h7 : g_Hs S1 = g_Hs S)
    (hGr : ∀ i, i ≠ k → g_Gr S1 i = g_Gr S i) (hOf : ∀ i, i ≠ k → g_Of S1 i = g_Of S i) (hLe : ∀ i, i ≠ k → g_Le S1 i = g_Le S i) (hSs : ∀ i, i ≠ k → g_Ss S1 i = g_Ss S i) (hSt : ∀ i, i ≠ k → g_St S1 i = g_St S i) (hRt : ∀ i, i ≠ k → g_Rt S1 i = g_Rt S i) (hSl : ∀ i, i ≠ k → g_Sl S1 i = g_Sl S i) (hHm : ∀ i, i ≠ k → g_Hm S1 i = g_Hm S i) : xOne cI cZ pd S S1 k := by
  refine ⟨hN, h1, h2, h3, h4, h5, h6, h7, fun i hi => ?_⟩
  unfold xB
  rw [hGr i hi, hOf i hi, hLe i hi, hSs i hi, hSt i hi, hRt i hi, hSl i hi, hHm i hi]
theorem ne_va {α : Type} {f : Nat → α} {k : Nat} {v : α} (i : Nat) (h : i ≠ k) : va_up f k v i = f i := va_up_ne f v h
theorem ne_upd {f : FR} {k : Nat} {v : Int32} (i : Nat) (h : i ≠ k) : upd f k v i = f i := by simp [upd, h]
theorem ne_rf {α : Type} {f : Nat → α} {k : Nat} (i : Nat) (_ : i ≠ k) : f i = f i := rfl
end
section
/-! writes behind writes -/
theorem ss_T1_T1 (S : ST) (a b : Int32) : s_T1 (s_T1 S a) b = s_T1 S b := by simp only [s_T1]
theorem ss_T1_T2 (S : ST) (a : Int32) (b : Int32) : s_T1 (s_T2 S a) b = s_T2 (s_T1 S b) a := by simp only [s_T1, s_T2]
theorem ss_T1_T3 (S : ST) (a : Int32) (b : Int32) : s_T1 (s_T3 S a) b = s_T3 (s_T1 S b) a := by simp only [s_T1, s_T3]
theorem ss_T1_N (S : ST) (a : Nat) (b : Int32) : s_T1 (s_N S a) b = s_N (s_T1 S b) a := by simp only [s_T1, s_N]
theorem ss_T1_Gr (S : ST) (a : FR) (b : Int32) : s_T1 (s_Gr S a) b = s_Gr (s_T1 S b) a := by simp only [s_T1, s_Gr]
theorem ss_T1_St (S : ST) (a : FR) (b : Int32) : s_T1 (s_St S a) b = s_St (s_T1 S b) a := by simp only [s_T1, s_St]
theorem ss_T1_Rt (S : ST) (a : FR) (b : Int32) : s_T1 (s_Rt S a) b = s_Rt (s_T1 S b) a := by simp only [s_T1, s_Rt]
theorem ss_T1_Sl (S : ST) (a : FR) (b : Int32) : s_T1 (s_Sl S a) b = s_Sl (s_T1 S b) a := by simp only [s_T1, s_Sl]
theorem ss_T1_Hm (S : ST) (a : GR) (b : Int32) : s_T1 (s_Hm S a) b = s_Hm (s_T1 S b) a := by simp only [s_T1, s_Hm]
theorem ss_T1_Of (S : ST) (a : GR) (b : Int32) : s_T1 (s_Of S a) b = s_Of (s_T1 S b) a := by simp only [s_T1, s_Of]
theorem ss_T1_Le (S : ST) (a : GR) (b : Int32) : s_T1 (s_Le S a) b = s_Le (s_T1 S b) a := by simp only [s_T1, s_Le]
theorem ss_T1_Ss (S : ST) (a : GR) (b : Int32) : s_T1 (s_Ss S a) b = s_Ss (s_T1 S b) a := by simp only [s_T1, s_Ss]
theorem ss_T1_Ho (S : ST) (a : FR) (b : Int32) : s_T1 (s_Ho S a) b = s_Ho (s_T1 S b) a := by simp only [s_T1, s_Ho]
theorem ss_T1_Hs (S : ST) (a : FR) (b : Int32) : s_T1 (s_Hs S a) b = s_Hs (s_T1 S b) a := by simp only [s_T1, s_Hs]
theorem ss_T1_Hz (S : ST) (a : FR) (b : Int32) : s_T1 (s_Hz S a) b = s_Hz (s_T1 S b) a := by simp only [s_T1, s_Hz]
theorem ss_T1_Df (S : ST) (a : Int32) (b : Int32) : s_T1 (s_Df S a) b = s_Df (s_T1 S b) a := by simp only [s_T1, s_Df]
theorem ss_T1_Dl (S : ST) (a : Int32) (b : Int32) : s_T1 (s_Dl S a) b = s_Dl (s_T1 S b) a := by simp only [s_T1, s_Dl]
theorem ss_T2_T2 (S : ST) (a b : Int32) : s_T2 (s_T2 S a) b = s_T2 S b := by simp only [s_T2]
theorem ss_T2_T3 (S : ST) (a : Int32) (b : Int32) : s_T2 (s_T3 S a) b = s_T3 (s_T2 S b) a := by simp only [s_T2, s_T3]
theorem ss_T2_N (S : ST) (a : Nat) (b : Int32) : s_T2 (s_N S a) b = s_N (s_T2 S b) a := by simp only [s_T2, s_N]
theorem ss_T2_Gr (S : ST) (a : FR) (b : Int32) : s_T2 (s_Gr S a) b = s_Gr (s_T2 S b) a := by simp only [s_T2, s_Gr]
theorem ss_T2_St (S : ST) (a : FR) (b : Int32) : s_T2 (s_St S a) b = s_St (s_T2 S b) a := by simp only [s_T2, s_St]
theorem ss_T2_Rt (S : ST) (a : FR) (b : Int32) : s_T2 (s_Rt S a) b = s_Rt (s_T2 S b) a := by simp only [s_T2, s_Rt]
theorem ss_T2_Sl (S : ST) (a : FR) (b : Int32) : s_T2 (s_Sl S a) b = s_Sl (s_T2 S b) a := by simp only [s_T2, s_Sl]
theorem ss_T2_Hm (S : ST) (a : GR) (b : Int32) : s_T2 (s_Hm S a) b = s_Hm (s_T2 S b) a := by simp only [s_T2, s_Hm]
theorem ss_T2_Of (S : ST) (a : GR) (b : Int32) : s_T2 (s_Of S a) b = s_Of (s_T2 S b) a := by simp only [s_T2, s_Of]
theorem ss_T2_Le (S : ST) (a : GR) (b : Int32) : s_T2 (s_Le S a) b = s_Le (s_T2 S b) a := by simp only [s_T2, s_Le]
theorem ss_T2_Ss (S : ST) (a : GR) (b : Int32) : s_T2 (s_Ss S a) b = s_Ss (s_T2 S b) a := by simp only [s_T2, s_Ss]
theorem ss_T2_Ho (S : ST) (a : FR) (b : Int32) : s_T2 (s_Ho S a) b = s_Ho (s_T2 S b) a := by simp only [s_T2, s_Ho]
theorem ss_T2_Hs (S : ST) (a : FR) (b : Int32) : s_T2 (s_Hs S a) b = s_Hs (s_T2 S b) a := by simp only [s_T2, s_Hs]
theorem ss_T2_Hz (S : ST) (a : FR) (b : Int32) : s_T2 (s_Hz S a) b = s_Hz (s_T2 S b) a := by simp only [s_T2, s_Hz]
theorem ss_T2_Df (S : ST) (a : Int32) (b : Int32) : s_T2 (s_Df S a) b = s_Df (s_T2 S b) a := by simp only [s_T2, s_Df]
theorem ss_T2_Dl (S : ST) (a : Int32) (b : Int32) : s_T2 (s_Dl S a) b = s_Dl (s_T2 S b) a := by simp only [s_T2, s_Dl]
theorem ss_T3_T3 (S : ST) (a b : Int32) : s_T3 (s_T3 S a) b = s_T3 S b := by simp only [s_T3]
theorem ss_T3_N (S : ST) (a : Nat) (b : Int32) : s_T3 (s_N S a) b = s_N (s_T3 S b) a := by simp only [s_T3, s_N]
theorem ss_T3_Gr (S : ST) (a : FR) (b : Int32) : s_T3 (s_Gr S a) b = s_Gr (s_T3 S b) a := by simp only [s_T3, s_Gr]
theorem ss_T3_St (S : ST) (a : FR) (b : Int32) : s_T3 (s_St S a) b = s_St (s_T3 S b) a := by simp only [s_T3, s_St]
theorem ss_T3_Rt (S : ST) (a : FR) (b : Int32) : s_T3 (s_Rt S a) b = s_Rt (s_T3 S b) a := by simp only [s_T3, s_Rt]
theorem ss_T3_Sl (S : ST) (a : FR) (b : Int32) : s_T3 (s_Sl S a) b = s_Sl (s_T3 S b) a := by simp only [s_T3, s_Sl]
theorem ss_T3_Hm (S : ST) (a : GR) (b : Int32) : s_T3 (s_Hm S a) b = s_Hm (s_T3 S b) a := by simp only [s_T3, s_Hm]
theorem ss_T3_Of (S : ST) (a : GR) (b : Int32) : s_T3 (s_Of S a) b = s_Of (s_T3 S b) a := by simp only [s_T3, s_Of]
theorem ss_T3_Le (S : ST) (a : GR) (b : Int32) : s_T3 (s_Le S a) b = s_Le (s_T3 S b) a := by simp only [s_T3, s_Le]
theorem ss_T3_Ss (S : ST) (a : GR) (b : Int32) : s_T3 (s_Ss S a) b = s_Ss (s_T3 S b) a := by simp only [s_T3, s_Ss]
theorem ss_T3_Ho (S : ST) (a : FR) (b : Int32) : s_T3 (s_Ho S a) b = s_Ho (s_T3 S b) a := by simp only [s_T3, s_Ho]
theorem ss_T3_Hs (S : ST) (a : FR) (b : Int32) : s_T3 (s_Hs S a) b = s_Hs (s_T3 S b) a := by simp only [s_T3, s_Hs]
theorem ss_T3_Hz (S : ST) (a : FR) (b : Int32) : s_T3 (s_Hz S a) b = s_Hz (s_T3 S b) a := by simp only [s_T3, s_Hz]
theorem ss_T3_Df (S : ST) (a : Int32) (b : Int32) : s_T3 (s_Df S a) b = s_Df (s_T3 S b) a := by simp only [s_T3, s_Df]
theorem ss_T3_Dl (S : ST) (a : Int32) (b : Int32) : s_T3 (s_Dl S a) b = s_Dl (s_T3 S b) a := by simp only [s_T3, s_Dl]
theorem ss_N_N (S : ST) (a b : Nat) : s_N (s_N S a) b = s_N S b := by simp only [s_N]
theorem ss_N_Gr (S : ST) (a : FR) (b : Nat) : s_N (s_Gr S a) b = s_Gr (s_N S b) a := by simp only [s_N, s_Gr]
theorem ss_N_St (S : ST) (a : FR) (b : Nat) : s_N (s_St S a) b = s_St (s_N S b) a := by simp only [s_N, s_St]
theorem ss_N_Rt (S : ST) (a : FR) (b : Nat) : s_N (s_Rt S a) b = s_Rt (s_N S b) a := by simp only [s_N, s_Rt]
theorem ss_N_Sl (S : ST) (a : FR) (b : Nat) : s_N (s_Sl S a) b = s_Sl (s_N S b) a := by simp only [s_N, s_Sl]
theorem ss_N_Hm (S : ST) (a : GR) (b : Nat) : s_N (s_Hm S a) b = s_Hm (s_N S b) a := by simp only [s_N, s_Hm]
theorem ss_N_Of (S : ST) (a : GR) (b : Nat) : s_N (s_Of S a) b = s_Of (s_N S b) a := by simp only [s_N, s_Of]
theorem ss_N_Le (S : ST) (a : GR) (b : Nat) : s_N (s_Le S a) b = s_Le (s_N S b) a := by simp only [s_N, s_Le]
theorem ss_N_Ss (S : ST) (a : GR) (b : Nat) : s_N (s_Ss S a) b = s_Ss (s_N S b) a := by simp only [s_N, s_Ss]
theorem ss_N_Ho (S : ST) (a : FR) (b : Nat) : s_N (s_Ho S a) b = s_Ho (s_N S b) a := by simp only [s_N, s_Ho]
theorem ss_N_Hs (S : ST) (a : FR) (b : Nat) : s_N (s_Hs S a) b = s_Hs (s_N S b) a := by simp only [s_N, s_Hs]
theorem ss_N_Hz (S : ST) (a : FR) (b : Nat) : s_N (s_Hz S a) b = s_Hz (s_N S b) a := by simp only [s_N, s_Hz]
theorem ss_N_Df (S : ST) (a : Int32) (b : Nat) : s_N (s_Df S a) b = s_Df (s_N S b) a := by simp only [s_N, s_Df]
theorem ss_N_Dl (S : ST) (a : Int32) (b : Nat) : s_N (s_Dl S a) b = s_Dl (s_N S b) a := by simp only [s_N, s_Dl]
theorem ss_Gr_Gr (S : ST) (a b : FR) : s_Gr (s_Gr S a) b = s_Gr S b := by simp only [s_Gr]
theorem ss_Gr_St (S : ST) (a : FR) (b : FR) : s_Gr (s_St S a) b = s_St (s_Gr S b) a := by simp only [s_Gr, s_St]
theorem ss_Gr_Rt (S : ST) (a : FR) (b : FR) : s_Gr (s_Rt S a) b = s_Rt (s_Gr S b) a := by simp only [s_Gr, s_Rt]
theorem ss_Gr_Sl (S : ST) (a : FR) (b : FR) : s_Gr (s_Sl S a) b = s_Sl (s_Gr S b) a := by simp only [s_Gr, s_Sl]
theorem ss_Gr_Hm (S : ST) (a : GR) (b : FR) : s_Gr (s_Hm S a) b = s_Hm (s_Gr S b) a := by simp only [s_Gr, s_Hm]
theorem ss_Gr_Of (S : ST) (a : GR) (b : FR) : s_Gr (s_Of S a) b = s_Of (s_Gr S b) a := by simp only [s_Gr, s_Of]
theorem ss_Gr_Le (S : ST) (a : GR) (b : FR) : s_Gr (s_Le S a) b = s_Le (s_Gr S b) a := by simp only [s_Gr, s_Le]
theorem ss_Gr_Ss (S : ST) (a : GR) (b : FR) : s_Gr (s_Ss S a) b = s_Ss (s_Gr S b) a := by simp only [s_Gr, s_Ss]
theorem ss_Gr_Ho (S : ST) (a : FR) (b : FR) : s_Gr (s_Ho S a) b = s_Ho (s_Gr S b) a := by simp only [s_Gr, s_Ho]
theorem ss_Gr_Hs (S : ST) (a : FR) (b : FR) : s_Gr (s_Hs S a) b = s_Hs (s_Gr S b) a := by simp only [s_Gr, s_Hs]
theorem ss_Gr_Hz (S : ST) (a : FR) (b : FR) : s_Gr (s_Hz S a) b = s_Hz (s_Gr S b) a := by simp only [s_Gr, s_Hz]
theorem ss_Gr_Df (S : ST) (a : Int32) (b : FR) : s_Gr (s_Df S a) b = s_Df (s_Gr S b) a := by simp only [s_Gr, s_Df]
theorem ss_Gr_Dl (S : ST) (a : Int32) (b : FR) : s_Gr (s_Dl S a) b = s_Dl (s_Gr S b) a := by simp only [s_Gr, s_Dl]
theorem ss_St_St (S : ST) (a b : FR) : s_St (s_St S a) b = s_St S b := by simp only [s_St]
theorem ss_St_Rt (S : ST) (a : FR) (b : FR) : s_St (s_Rt S a) b = s_Rt (s_St S b) a := by simp only [s_St, s_Rt]
theorem ss_St_Sl (S : ST) (a : FR) (b : FR) : s_St (s_Sl S a) b = s_Sl (s_St S b) a := by simp only [s_St, s_Sl]
theorem ss_St_Hm (S : ST) (a : GR) (b : FR) : s_St (s_Hm S a) b = s_Hm (s_St S b) a := by simp only [s_St, s_Hm]
theorem ss_St_Of (S : ST) (a : GR) (b : FR) : s_St (s_Of S a) b = s_Of (s_St S b) a := by simp only [s_St, s_Of]
theorem ss_St_Le (S : ST) (a : GR) (b : FR) : s_St (s_Le S a) b = s_Le (s_St S b) a := by simp only [s_St, s_Le]
theorem ss_St_Ss (S : ST) (a : GR) (b : FR) : s_St (s_Ss S a) b = s_Ss (s_St S b) a := by simp only [s_St, s_Ss]
theorem ss_St_Ho (S : ST) (a : FR) (b : FR) : s_St (s_Ho S a) b = s_Ho (s_St S b) a := by simp only [s_St, s_Ho]
theorem ss_St_Hs (S : ST) (a : FR) (b : FR) : s_St (s_Hs S a) b = s_Hs (s_St S b) a := by simp only [s_St, s_Hs]
theorem ss_St_Hz (S : ST) (a : FR) (b : FR) : s_St (s_Hz S a) b = s_Hz (s_St S b) a := by simp only [s_St, s_Hz]
theorem ss_St_Df (S : ST) (a : Int32) (b : FR) : s_St (s_Df S a) b = s_Df (s_St S b) a := by simp only [s_St, s_Df]
theorem ss_St_Dl (S : ST) (a : Int32) (b : FR) : s_St (s_Dl S a) b = s_Dl (s_St S b) a := by simp only [s_St, s_Dl]
theorem ss_Rt_Rt (S : ST) (a b : FR) : s_Rt (s_Rt S a) b = s_Rt S b := by simp only [s_Rt]
theorem ss_Rt_Sl (S : ST) (a : FR) (b : FR) : s_Rt (s_Sl S a) b = s_Sl (s_Rt S b) a := by simp only [s_Rt, s_Sl]
theorem ss_Rt_Hm (S : ST) (a : GR) (b : FR) : s_Rt (s_Hm S a) b = s_Hm (s_Rt S b) a := by simp only [s_Rt, s_Hm]
theorem ss_Rt_Of (S : ST) (a : GR) (b : FR) : s_Rt (s_Of S a) b = s_Of (s_Rt S b) a := by simp only [s_Rt, s_Of]
theorem ss_Rt_Le (S : ST) (a : GR) (b : FR) : s_Rt (s_Le S a) b = s_Le (s_Rt S b) a := by simp only [s_Rt, s_Le]
theorem ss_Rt_Ss (S : ST) (a : GR) (b : FR) : s_Rt (s_Ss S a) b = s_Ss (s_Rt S b) a := by simp only [s_Rt, s_Ss]
theorem ss_Rt_Ho (S : ST) (a : FR) (b : FR) : s_Rt (s_Ho S a) b = s_Ho (s_Rt S b) a := by simp only [s_Rt, s_Ho]
theorem ss_Rt_Hs (S : ST) (a : FR) (b : FR) : s_Rt (s_Hs S a) b = s_Hs (s_Rt S b) a := by simp only [s_Rt, s_Hs]
theorem ss_Rt_Hz (S : ST) (a : FR) (b : FR) : s_Rt (s_Hz S a) b = s_Hz (s_Rt S b) a := by simp only [s_Rt, s_Hz]
theorem ss_Rt_Df (S : ST) (a : Int32) (b : FR) : s_Rt (s_Df S a) b = s_Df (s_Rt S b) a := by simp only [s_Rt, s_Df]
theorem ss_Rt_Dl (S : ST) (a : Int32) (b : FR) : s_Rt (s_Dl S a) b = s_Dl (s_Rt S b) a := by simp only [s_Rt, s_Dl]
theorem ss_Sl_Sl (S : ST) (a b : FR) : s_Sl (s_Sl S a) b = s_Sl S b := by simp only [s_Sl]
theorem ss_Sl_Hm (S : ST) (a : GR) (b : FR) : s_Sl (s_Hm S a) b = s_Hm (s_Sl S b) a := by simp only [s_Sl, s_Hm]
theorem ss_Sl_Of (S : ST) (a : GR) (b : FR) : s_Sl (s_Of S a) b = s_Of (s_Sl S b) a := by simp only [s_Sl, s_Of]
theorem ss_Sl_Le (S : ST) (a : GR) (b : FR) : s_Sl (s_Le S a) b = s_Le (s_Sl S b) a := by simp only [s_Sl, s_Le]
theorem ss_Sl_Ss (S : ST) (a : GR) (b : FR) : s_Sl (s_Ss S a) b = s_Ss (s_Sl S b) a := by simp only [s_Sl, s_Ss]
theorem ss_Sl_Ho (S : ST) (a : FR) (b : FR) : s_Sl (s_Ho S a) b = s_Ho (s_Sl S b) a := by simp only [s_Sl, s_Ho]
theorem ss_Sl_Hs (S : ST) (a : FR) (b : FR) : s_Sl (s_Hs S a) b = s_Hs (s_Sl S b) a := by simp only [s_Sl, s_Hs]
theorem ss_Sl_Hz (S : ST) (a : FR) (b : FR) : s_Sl (s_Hz S a) b = s_Hz (s_Sl S b) a := by simp only [s_Sl, s_Hz]
theorem ss_Sl_Df (S : ST) (a : Int32) (b : FR) : s_Sl (s_Df S a) b = s_Df (s_Sl S b) a := by simp only [s_Sl, s_Df]
theorem ss_Sl_Dl (S : ST) (a : Int32) (b : FR) : s_Sl (s_Dl S a) b = s_Dl (s_Sl S b) a := by simp only [s_Sl, s_Dl]
theorem ss_Hm_Hm (S : ST) (a b : GR) : s_Hm (s_Hm S a) b = s_Hm S b := by simp only [s_Hm]
theorem ss_Hm_Of (S : ST) (a : GR) (b : GR) : s_Hm (s_Of S a) b = s_Of (s_Hm S b) a := by simp only [s_Hm, s_Of]
theorem ss_Hm_Le (S : ST) (a : GR) (b : GR) : s_Hm (s_Le S a) b = s_Le (s_Hm S b) a := by simp only [s_Hm, s_Le]
theorem ss_Hm_Ss (S : ST) (a : GR) (b : GR) : s_Hm (s_Ss S a) b = s_Ss (s_Hm S b) a := by simp only [s_Hm, s_Ss]
theorem ss_Hm_Ho (S : ST) (a : FR) (b : GR) : s_Hm (s_Ho S a) b = s_Ho (s_Hm S b) a := by simp only [s_Hm, s_Ho]
theorem ss_Hm_Hs (S : ST) (a : FR) (b : GR) : s_Hm (s_Hs S a) b = s_Hs (s_Hm S b) a := by simp only [s_Hm, s_Hs]
theorem ss_Hm_Hz (S : ST) (a : FR) (b : GR) : s_Hm (s_Hz S a) b = s_Hz (s_Hm S b) a := by simp only [s_Hm, s_Hz]
theorem ss_Hm_Df (S : ST) (a : Int32) (b : GR) : s_Hm (s_Df S a) b = s_Df (s_Hm S b) a := by simp only [s_Hm, s_Df]
theorem ss_Hm_Dl (S : ST) (a : Int32) (b : GR) : s_Hm (s_Dl S a) b = s_Dl (s_Hm S b) a := by simp only [s_Hm, s_Dl]
theorem ss_Of_Of (S : ST) (a b : GR) : s_Of (s_Of S a) b = s_Of S b := by simp only [s_Of]
theorem ss_Of_Le (S : ST) (a : GR) (b : GR) : s_Of (s_Le S a) b = s_Le (s_Of S b) a := by simp only [s_Of, s_Le]
theorem ss_Of_Ss (S : ST) (a : GR) (b : GR) : s_Of (s_Ss S a) b = s_Ss (s_Of S b) a := by simp only [s_Of, s_Ss]
theorem ss_Of_Ho (S : ST) (a : FR) (b : GR) : s_Of (s_Ho S a) b = s_Ho (s_Of S b) a := by simp only [s_Of, s_Ho]
theorem ss_Of_Hs (S : ST) (a : FR) (b : GR) : s_Of (s_Hs S a) b = s_Hs (s_Of S b) a := by simp only [s_Of, s_Hs]
theorem ss_Of_Hz (S : ST) (a : FR) (b : GR) : s_Of (s_Hz S a) b = s_Hz (s_Of S b) a := by simp only [s_Of, s_Hz]
theorem ss_Of_Df (S : ST) (a : Int32) (b : GR) : s_Of (s_Df S a) b = s_Df (s_Of S b) a := by simp only [s_Of, s_Df]
theorem ss_Of_Dl (S : ST) (a : Int32) (b : GR) : s_Of (s_Dl S a) b = s_Dl (s_Of S b) a := by simp only [s_Of, s_Dl]
theorem ss_Le_Le (S : ST) (a b : GR) : s_Le (s_Le S a) b = s_Le S b := by simp only [s_Le]
theorem ss_Le_Ss (S : ST) (a : GR) (b : GR) : s_Le (s_Ss S a) b = s_Ss (s_Le S b) a := by simp only [s_Le, s_Ss]
theorem ss_Le_Ho (S : ST) (a : FR) (b : GR) : s_Le (s_Ho S a) b = s_Ho (s_Le S b) a := by simp only [s_Le, s_Ho]
theorem ss_Le_Hs (S : ST) (a : FR) (b : GR) : s_Le (s_Hs S a) b = s_Hs (s_Le S b) a := by simp only [s_Le, s_Hs]
theorem ss_Le_Hz (S : ST) (a : FR) (b : GR) : s_Le (s_Hz S a) b = s_Hz (s_Le S b) a := by simp only [s_Le, s_Hz]
theorem ss_Le_Df (S : ST) (a : Int32) (b : GR) : s_Le (s_Df S a) b = s_Df (s_Le S b) a := by simp only [s_Le, s_Df]
theorem ss_Le_Dl (S : ST) (a : Int32) (b : GR) : s_Le (s_Dl S a) b = s_Dl (s_Le S b) a := by simp only [s_Le, s_Dl]
theorem ss_Ss_Ss (S : ST) (a b : GR) : s_Ss (s_Ss S a) b = s_Ss S b := by simp only [s_Ss]
theorem ss_Ss_Ho (S : ST) (a : FR) (b : GR) : s_Ss (s_Ho S a) b = s_Ho (s_Ss S b) a := by simp only [s_Ss, s_Ho]
theorem ss_Ss_Hs (S : ST) (a : FR) (b : GR) : s_Ss (s_Hs S a) b = s_Hs (s_Ss S b) a := by simp only [s_Ss, s_Hs]
theorem ss_Ss_Hz (S : ST) (a : FR) (b : GR) : s_Ss (s_Hz S a) b = s_Hz (s_Ss S b) a := by simp only [s_Ss, s_Hz]
theorem ss_Ss_Df (S : ST) (a : Int32) (b : GR) : s_Ss (s_Df S a) b = s_Df (s_Ss S b) a := by simp only [s_Ss, s_Df]
theorem ss_Ss_Dl (S : ST) (a : Int32) (b : GR) : s_Ss (s_Dl S a) b = s_Dl (s_Ss S b) a := by simp only [s_Ss, s_Dl]
theorem ss_Ho_Ho (S : ST) (a b : FR) : s_Ho (s_Ho S a) b = s_Ho S b := by simp only [s_Ho]
theorem ss_Ho_Hs (S : ST) (a : FR) (b : FR) : s_Ho (s_Hs S a) b = s_Hs (s_Ho S b) a := by simp only [s_Ho, s_Hs]
theorem ss_Ho_Hz (S : ST) (a : FR) (b : FR) : s_Ho (s_Hz S a) b = s_Hz (s_Ho S b) a := by simp only [s_Ho, s_Hz]
theorem ss_Ho_Df (S : ST) (a : Int32) (b : FR) : s_Ho (s_Df S a) b = s_Df (s_Ho S b) a := by simp only [s_Ho, s_Df]
theorem ss_Ho_Dl (S : ST) (a : Int32) (b : FR) : s_Ho (s_Dl S a) b = s_Dl (s_Ho S b) a := by simp only [s_Ho, s_Dl]
theorem ss_Hs_Hs (S : ST) (a b : FR) : s_Hs (s_Hs S a) b = s_Hs S b := by simp only [s_Hs]
theorem ss_Hs_Hz (S : ST) (a : FR) (b : FR) : s_Hs (s_Hz S a) b = s_Hz (s_Hs S b) a := by simp only [s_Hs, s_Hz]
theorem ss_Hs_Df (S : ST) (a : Int32) (b : FR) : s_Hs (s_Df S a) b = s_Df (s_Hs S b) a := by simp only [s_Hs, s_Df]
theorem ss_Hs_Dl (S : ST) (a : Int32) (b : FR) : s_Hs (s_Dl S a) b = s_Dl (s_Hs S b) a := by simp only [s_Hs, s_Dl]
theorem ss_Hz_Hz (S : ST) (a b : FR) : s_Hz (s_Hz S a) b = s_Hz S b := by simp only [s_Hz]
theorem ss_Hz_Df (S : ST) (a : Int32) (b : FR) : s_Hz (s_Df S a) b = s_Df (s_Hz S b) a := by simp only [s_Hz, s_Df]
theorem ss_Hz_Dl (S : ST) (a : Int32) (b : FR) : s_Hz (s_Dl S a) b = s_Dl (s_Hz S b) a := by simp only [s_Hz, s_Dl]
theorem ss_Df_Df (S : ST) (a b : Int32) : s_Df (s_Df S a) b = s_Df S b := by simp only [s_Df]
theorem ss_Df_Dl (S : ST) (a : Int32) (b : Int32) : s_Df (s_Dl S a) b = s_Dl (s_Df S b) a := by simp only [s_Df, s_Dl]
theorem ss_Dl_Dl (S : ST) (a b : Int32) : s_Dl (s_Dl S a) b = s_Dl S b := by simp only [s_Dl]
theorem sg_T1 (S : ST) : s_T1 S (g_T1 S) = S := rfl
theorem sg_T2 (S : ST) : s_T2 S (g_T2 S) = S := rfl
theorem sg_T3 (S : ST) : s_T3 S (g_T3 S) = S := rfl
theorem sg_N (S : ST) : s_N S (g_N S) = S := rfl
theorem sg_Gr (S : ST) : s_Gr S (g_Gr S) = S := rfl
theorem sg_St (S : ST) : s_St S (g_St S) = S := rfl
theorem sg_Rt (S : ST) : s_Rt S (g_Rt S) = S := rfl
theorem sg_Sl (S : ST) : s_Sl S (g_Sl S) = S := rfl
theorem sg_Hm (S : ST) : s_Hm S (g_Hm S) = S := rfl
theorem sg_Of (S : ST) : s_Of S (g_Of S) = S := rfl
theorem sg_Le (S : ST) : s_Le S (g_Le S) = S := rfl
theorem sg_Ss (S : ST) : s_Ss S (g_Ss S) = S := rfl
theorem sg_Ho (S : ST) : s_Ho S (g_Ho S) = S := rfl
theorem sg_Hs (S : ST) : s_Hs S (g_Hs S) = S := rfl
theorem sg_Hz (S : ST) : s_Hz S (g_Hz S) = S := rfl
theorem sg_Df (S : ST) : s_Df S (g_Df S) = S := rfl
theorem sg_Dl (S : ST) : s_Dl S (g_Dl S) = S := rfl
theorem SA_s (S : ST) (i : Nat) : o_Sel (o_SA S i) i = o_SA S (i + 1) := rfl
theorem ai_s (S : ST) (r : Nat) (hop len : Int32) (i : Nat) : a_1 (a_i S r hop len i) r hop len i = a_i S r hop len (i + 1) := rfl
theorem SA_0 (S : ST) : o_SA S 0 = S := rfl
theorem ai_0 (S : ST) (r : Nat) (hop len : Int32) : a_i S r hop len 0 = S := rfl
theorem ER_0 (S : ST) : o_ER S 0 = S := rfl
theorem Sel_e (S : ST) (r : Nat) : a_i (o_Ent S r (b_at S r (g_N S)).1) r (b_at S r (g_N S)).1 ((b_at S r (g_N S)).2 + 1) (g_N S) = o_Sel S r := rfl
theorem End_e (S : ST) : o_ER (o_SA (s_Dl (s_Df S 0) 0) 16) (g_N S) = o_End S := rfl
theorem CDs_s1 (S : ST) (i : Nat) : (o_CDs S i).1 + (o_CD (o_CDs S i).2 i).1 = (o_CDs S (i + 1)).1 := rfl
theorem CDs_s2 (S : ST) (i : Nat) : (o_CD (o_CDs S i).2 i).2 = (o_CDs S (i + 1)).2 := rfl
theorem Tk_s1 (S : ST) (i : Nat) : (o_Tk S i).1 + (o_Tk1 (o_Tk S i).2).1 = (o_Tk S (i + 1)).1 := rfl
theorem Tk_s2 (S : ST) (i : Nat) : (o_Tk1 (o_Tk S i).2).2 = (o_Tk S (i + 1)).2 := rfl
theorem Tk1_2 (S : ST) : o_Chk (o_Dl1 (o_CDs S (g_N S)).2) = (o_Tk1 S).2 := rfl
theorem Tk1_1 (S : ST) : (o_CDs S (g_N S)).1 = (o_Tk1 S).1 := rfl
theorem Rs_t {S : ST} {i : Nat} (h : g_St (o_Rs S i).2 i = 0) : o_Rs S (i + 1) = ((o_Rs S i).1 + 1, o_Lose (o_Hm0 (o_Rs S i).2 i) i) := by
  rw [show o_Rs S (i + 1) = (if g_St (o_Rs S i).2 i = 0 then ((o_Rs S i).1 + 1, o_Lose (o_Hm0 (o_Rs S i).2 i) i) else ((o_Rs S i).1, o_Hm0 (o_Rs S i).2 i)) from rfl, if_pos h]
theorem Rs_f {S : ST} {i : Nat} (h : ¬ g_St (o_Rs S i).2 i = 0) : o_Rs S (i + 1) = ((o_Rs S i).1, o_Hm0 (o_Rs S i).2 i) := by
  rw [show o_Rs S (i + 1) = (if g_St (o_Rs S i).2 i = 0 then ((o_Rs S i).1 + 1, o_Lose (o_Hm0 (o_Rs S i).2 i) i) else ((o_Rs S i).1, o_Hm0 (o_Rs S i).2 i)) from rfl, if_neg h]
theorem RmL_e (S : ST) (p : Nat) : s_Ss (s_Le S (va_up (g_Le S) p (kCut tt9 16 (g_Le S p)))) (va_up (g_Ss S) p (kCut tt9 16 (g_Ss S p))) = o_RmL S p := rfl
theorem RmS_e (S : ST) (p : Nat) : s_Ss (s_Le S (va_up (g_Le S) p (kCut (nz (g_Ss S p)) 16 (g_Le S p)))) (va_up (g_Ss S) p (kCut (nz (g_Ss S p)) 16 (g_Ss S p))) = o_RmS S p := rfl
theorem ERes_e (S : ST) (p : Nat) : s_Sl (o_RmS S p) (upd (g_Sl S) p 0) = o_ERes S p := rfl
theorem Ent_e (S : ST) (r : Nat) (hop : Int32) : s_Hz (s_Hs (s_Ho S (upd (g_Ho S) r hop)) (upd (g_Hs S) r 0)) (upd (g_Hz S) r 0) = o_Ent S r hop := rfl
theorem Down_e (S : ST) (p : Nat) : o_RmL (s_Sl (s_Rt (s_St S (upd (g_St S) p 2)) (upd (g_Rt S) p 0)) (upd (g_Sl S) p 0)) p = o_Down S p := rfl
end
section
set_option maxRecDepth 100000 in
set_option maxHeartbeats 4000000 in
theorem c_X2_within (l : Launch) (D : va_G) (cI cZ cP : ClassId) (x lo hi : Int32) : MM l yX2_within wsX2_within ({ frames := 0, cells := 0, slots := 0, locals := 0 }) D (kTy cI cZ cP) [.int x, .int lo, .int hi] [] (some (.int (if x < lo then 0 else if hi < x then 0 else 1))) [] := by
  refine MM.ofW (cc := cX2_within) (maxL := 3) (ret := (some .boolean)) (by decide) rfl (Nat.le_of_ble_eq_true rfl) ?_
  intro p e s m below meth c ls A hx hb hr hlk hml hts hown hK hN hP hD hS hAe hl
  have hown : s.vm.findClass RX2 = some m.cls := hown
  have hl : lv_has ls 3 [(0, .int x), (1, .int lo), (2, .int hi)] := hl
  refine lv_iload_n hx hb dX2_within_0 rfl (lv_at hl 0 rfl) ?_
  refine lv_iload_n hx hb dX2_within_1 rfl (lv_at hl 1 rfl) ?_
  refine lv_icmp_lt (tgt := 14) hx hb dX2_within_2 (by decide) (fun c_2 => ?_) (fun c_2 => ?_)
  · refine lv_iconst (v := 0) hx hb dX2_within_14 (by decide) ?_
    exact k_zret hx hb hr hlk hP hS hAe rfl (by simp [c_2]) rfl dX2_within_15
  · refine lv_iload_n hx hb dX2_within_5 rfl (lv_at hl 0 rfl) ?_
    refine lv_iload_n hx hb dX2_within_6 rfl (lv_at hl 2 rfl) ?_
    refine lv_icmp_gt (tgt := 14) hx hb dX2_within_7 (by decide) (fun c_7 => ?_) (fun c_7 => ?_)
    · refine lv_iconst (v := 0) hx hb dX2_within_14 (by decide) ?_
      exact k_zret hx hb hr hlk hP hS hAe rfl (by simp [c_2, c_7]) rfl dX2_within_15
    · refine lv_iconst (v := 1) hx hb dX2_within_10 (by decide) ?_
      refine lv_goto (tgt := 15) hx hb dX2_within_11 (by decide) ?_
      exact k_zret hx hb hr hlk hP hS hAe rfl (by simp [c_2, c_7]) rfl dX2_within_15

set_option maxRecDepth 100000 in
set_option maxHeartbeats 4000000 in
theorem c_X2_isRoute (l : Launch) (D : va_G) (cI cZ cP : ClassId) (t f : Int32) : MM l yX2_isRoute wsX2_isRoute ({ frames := 1, cells := 0, slots := 0, locals := 22 }) D (kTy cI cZ cP) [.int t, .int f] [] (some (.int (if okR t f then 1 else 0))) [] := by
  refine MM.ofW (cc := cX2_isRoute) (maxL := 2) (ret := (some .boolean)) (by decide) rfl (Nat.le_of_ble_eq_true rfl) ?_
  intro p e s m below meth c ls A hx hb hr hlk hml hts hown hK hN hP hD hS hAe hl
  have hown : s.vm.findClass RX2 = some m.cls := hown
  have hl : lv_has ls 2 [(0, .int t), (1, .int f)] := hl
  refine lv_iload_n hx hb dX2_isRoute_0 rfl (lv_at hl 0 rfl) ?_
  refine lv_iconst (v := 0) hx hb dX2_isRoute_1 (by decide) ?_
  refine lv_iconst (v := 1) hx hb dX2_isRoute_2 (by decide) ?_
  refine kS0 (As := [.int t, .int 0, .int 1]) (rest := []) (o := some (.int (if t < 0 then 0 else if 1 < t then 0 else 1))) ⟨hx, hb, hml, hown, hts⟩ (c_X2_within l D cI cZ cP t 0 1) (va_cwS 3 hts gX2_isRoute_X2_within rfl rfl rfl (by decide +kernel) ⟨Nat.le_of_ble_eq_true rfl, Nat.le_of_ble_eq_true rfl⟩) hK hN hP hD hS rfl hl.1 rfl (Nat.le_of_ble_eq_true rfl) ⟨Nat.zero_le _, Nat.zero_le _⟩ dX2_isRoute_3 (fun H locs hP hD hS => ?_)
  refine k_top (y := if 0 ≤ t ∧ t < 2 then 1 else 0) (wi_R t (by decide)) ?_
  by_cases ha : 0 ≤ t ∧ t < 2
  · refine k_top (if_pos ha) ?_
    refine lv_if_eq (tgt := 23) hx hb dX2_isRoute_6 (by decide) (fun c_ => absurd c_ (by decide)) (fun _ => ?_)
    refine lv_iload_n hx hb dX2_isRoute_9 rfl (lv_at hl 1 rfl) ?_
    refine lv_iconst (v := 0) hx hb dX2_isRoute_10 (by decide) ?_
    refine lv_bipush (v := 7) hx hb dX2_isRoute_11 (by decide) ?_
    refine kS0 (As := [.int f, .int 0, .int 7]) (rest := []) (o := some (.int (if f < 0 then 0 else if 7 < f then 0 else 1))) ⟨hx, hb, hml, hown, hts⟩ (c_X2_within l D cI cZ cP f 0 7) (va_cwS 3 hts gX2_isRoute_X2_within rfl rfl rfl (by decide +kernel) ⟨Nat.le_of_ble_eq_true rfl, Nat.le_of_ble_eq_true rfl⟩) hK hN hP hD hS rfl hl.1 rfl (Nat.le_of_ble_eq_true rfl) ⟨Nat.zero_le _, Nat.zero_le _⟩ dX2_isRoute_13 (fun H locs hP hD hS => ?_)
    refine k_top (y := if 0 ≤ f ∧ f < 8 then 1 else 0) (wi_R f (by decide)) ?_
    by_cases hb9 : 0 ≤ f ∧ f < 8
    · refine k_top (if_pos hb9) ?_
      refine lv_if_eq (tgt := 23) hx hb dX2_isRoute_16 (by decide) (fun c_ => absurd c_ (by decide)) (fun _ => ?_)
      refine lv_iconst (v := 1) hx hb dX2_isRoute_19 (by decide) ?_
      refine lv_goto (tgt := 24) hx hb dX2_isRoute_20 (by decide) ?_
      exact k_zret hx hb hr hlk hP hS hAe rfl (by simp [okR, ha, hb9]) rfl dX2_isRoute_24
    · refine k_top (if_neg hb9) ?_
      refine lv_if_eq (tgt := 23) hx hb dX2_isRoute_16 (by decide) (fun _ => ?_) (fun c_ => absurd (by decide) c_)
      refine lv_iconst (v := 0) hx hb dX2_isRoute_23 (by decide) ?_
      exact k_zret hx hb hr hlk hP hS hAe rfl (by simp [okR, ha, hb9]) rfl dX2_isRoute_24
  · refine k_top (if_neg ha) ?_
    refine lv_if_eq (tgt := 23) hx hb dX2_isRoute_6 (by decide) (fun _ => ?_) (fun c_ => absurd (by decide) c_)
    refine lv_iconst (v := 0) hx hb dX2_isRoute_23 (by decide) ?_
    exact k_zret hx hb hr hlk hP hS hAe rfl (by simp [okR, ha]) rfl dX2_isRoute_24

set_option maxRecDepth 100000 in
set_option maxHeartbeats 4000000 in
theorem c_X2_setRestartTime (l : Launch) (D : va_G) (cI cZ cP : ClassId) (md : Nat → Nat) (S : ST) (x : Int32) : MM l yX2_setRestartTime wsX2_setRestartTime ({ frames := 1, cells := 0, slots := 0, locals := 22 }) D (kTy cI cZ cP) [.ref (md 0), .int x] (mW cI cZ md S) (some (.int (if okT x then g_T1 S else -3))) (mW cI cZ md (if okT x then s_T1 S x else S)) := by
  refine MM.ofW (cc := cX2_setRestartTime) (maxL := 3) (ret := (some .int)) (by decide) rfl (Nat.le_of_ble_eq_true rfl) ?_
  intro p e s m below meth c ls A hx hb hr hlk hml hts hown hK hN hP hD hS hAe hl
  have hown : s.vm.findClass RX2 = some m.cls := hown
  have hi2 : ∀ w ∈ wsX20, w ∈ wsX2_setRestartTime := fun w h => List.mem_cons_of_mem _ (List.mem_append_right _ h)
  have hl : lv_has ls 3 [(0, .ref (md 0)), (1, .int x)] := hl
  refine lv_iload_n hx hb dX2_setRestartTime_0 rfl (lv_at hl 1 rfl) ?_
  refine lv_iconst (v := 1) hx hb dX2_setRestartTime_1 (by decide) ?_
  refine lv_bipush (v := 50) hx hb dX2_setRestartTime_2 (by decide) ?_
  refine kS0 (As := [.int x, .int 1, .int 50]) (rest := []) (o := some (.int (if x < 1 then 0 else if 50 < x then 0 else 1))) ⟨hx, hb, hml, hown, hts⟩ (c_X2_within l D cI cZ cP x 1 50) (va_cwS 3 hts gX2_setRestartTime_X2_within rfl rfl rfl (by decide +kernel) ⟨Nat.le_of_ble_eq_true rfl, Nat.le_of_ble_eq_true rfl⟩) hK hN hP hD hS rfl hl.1 rfl (Nat.le_of_ble_eq_true rfl) ⟨Nat.zero_le _, Nat.zero_le _⟩ dX2_setRestartTime_4 (fun H locs hP hD hS => ?_)
  refine k_top (y := if okT x then 1 else 0) (wi_g x 1 50) ?_
  by_cases ht : okT x
  · refine k_top (if_pos ht) ?_
    refine lv_if_ne (tgt := 13) hx hb dX2_setRestartTime_7 (by decide) (fun _ => ?_) (fun c_ => absurd c_ (by decide))
    refine lv_aload_n hx hb dX2_setRestartTime_13 rfl (lv_at hl 0 rfl) ?_
    refine va_get (D := D) (ci := 2) (v := .int (g_T1 S)) (C := RX2) (T := TX2) (N := 16) hx hb hts hi2 hown hK hP 0 (mO _ _ _ _) rfl 0 (by decide) (hts (.fieldLink RX2 7 "GracefulRestartModel" "restartTime" "I") (List.mem_of_getElem? (i := 1) rfl)) (fun _ h9 => h9) (mV_T1 _ _) dX2_setRestartTime_14 ?_
    refine lv_istore_n (lv' := [(2, .int (g_T1 S)), (0, .ref (md 0)), (1, .int x)]) hx hb dX2_setRestartTime_17 rfl hl (by decide) rfl (fun ls hl => ?_)
    refine lv_aload_n hx hb dX2_setRestartTime_18 rfl (lv_at hl 1 rfl) ?_
    refine lv_iload_n hx hb dX2_setRestartTime_19 rfl (lv_at hl 2 rfl) ?_
    refine k_put (D := D) (ci := 2) (v := .int x) (ty := .int) (C := RX2) (T := TX2) (N := 16) hx hb hts hi2 tyX2 tyX2_ok nmX2 hown hK hP hD hS 0 (mO _ _ _ _) rfl 0 (by decide) (hts (.fieldLink RX2 7 "GracefulRestartModel" "restartTime" "I") (List.mem_of_getElem? (i := 1) rfl)) (fun _ h9 => h9) rfl (by decide +kernel) rfl rfl (Nat.le_of_ble_eq_true rfl) (W1 := (mW cI cZ md (s_T1 S x))) (mP_T1 _ _ _ _ _) dX2_setRestartTime_20 (fun H locs hP hD hS => ?_)
    refine lv_iload_n hx hb dX2_setRestartTime_23 rfl (lv_at hl 0 rfl) ?_
    exact k_iret hx hb hr hlk hP hS hAe ((if_pos ht).symm) (by rw [if_pos ht]) dX2_setRestartTime_24
  · refine k_top (if_neg ht) ?_
    refine lv_if_ne (tgt := 13) hx hb dX2_setRestartTime_7 (by decide) (fun c_ => absurd (by decide) c_) (fun _ => ?_)
    refine lv_bipush (v := -3) hx hb dX2_setRestartTime_10 (by decide) ?_
    exact k_iret hx hb hr hlk hP hS hAe ((if_neg ht).symm) (by rw [if_neg ht]) dX2_setRestartTime_12

set_option maxRecDepth 100000 in
set_option maxHeartbeats 4000000 in
theorem c_X2_setStaleTime (l : Launch) (D : va_G) (cI cZ cP : ClassId) (md : Nat → Nat) (S : ST) (x : Int32) : MM l yX2_setStaleTime wsX2_setStaleTime ({ frames := 1, cells := 0, slots := 0, locals := 22 }) D (kTy cI cZ cP) [.ref (md 0), .int x] (mW cI cZ md S) (some (.int (if okT x then g_T2 S else -3))) (mW cI cZ md (if okT x then s_T2 S x else S)) := by
  refine MM.ofW (cc := cX2_setStaleTime) (maxL := 3) (ret := (some .int)) (by decide) rfl (Nat.le_of_ble_eq_true rfl) ?_
  intro p e s m below meth c ls A hx hb hr hlk hml hts hown hK hN hP hD hS hAe hl
  have hown : s.vm.findClass RX2 = some m.cls := hown
  have hi2 : ∀ w ∈ wsX20, w ∈ wsX2_setStaleTime := fun w h => List.mem_cons_of_mem _ (List.mem_append_right _ h)
  have hl : lv_has ls 3 [(0, .ref (md 0)), (1, .int x)] := hl
  refine lv_iload_n hx hb dX2_setStaleTime_0 rfl (lv_at hl 1 rfl) ?_
  refine lv_iconst (v := 1) hx hb dX2_setStaleTime_1 (by decide) ?_
  refine lv_bipush (v := 50) hx hb dX2_setStaleTime_2 (by decide) ?_
  refine kS0 (As := [.int x, .int 1, .int 50]) (rest := []) (o := some (.int (if x < 1 then 0 else if 50 < x then 0 else 1))) ⟨hx, hb, hml, hown, hts⟩ (c_X2_within l D cI cZ cP x 1 50) (va_cwS 3 hts gX2_setStaleTime_X2_within rfl rfl rfl (by decide +kernel) ⟨Nat.le_of_ble_eq_true rfl, Nat.le_of_ble_eq_true rfl⟩) hK hN hP hD hS rfl hl.1 rfl (Nat.le_of_ble_eq_true rfl) ⟨Nat.zero_le _, Nat.zero_le _⟩ dX2_setStaleTime_4 (fun H locs hP hD hS => ?_)
  refine k_top (y := if okT x then 1 else 0) (wi_g x 1 50) ?_
  by_cases ht : okT x
  · refine k_top (if_pos ht) ?_
    refine lv_if_ne (tgt := 13) hx hb dX2_setStaleTime_7 (by decide) (fun _ => ?_) (fun c_ => absurd c_ (by decide))
    refine lv_aload_n hx hb dX2_setStaleTime_13 rfl (lv_at hl 0 rfl) ?_
    refine va_get (D := D) (ci := 2) (v := .int (g_T2 S)) (C := RX2) (T := TX2) (N := 16) hx hb hts hi2 hown hK hP 0 (mO _ _ _ _) rfl 1 (by decide) (hts (.fieldLink RX2 13 "GracefulRestartModel" "staleTime" "I") (List.mem_of_getElem? (i := 1) rfl)) (fun _ h9 => h9) (mV_T2 _ _) dX2_setStaleTime_14 ?_
    refine lv_istore_n (lv' := [(2, .int (g_T2 S)), (0, .ref (md 0)), (1, .int x)]) hx hb dX2_setStaleTime_17 rfl hl (by decide) rfl (fun ls hl => ?_)
    refine lv_aload_n hx hb dX2_setStaleTime_18 rfl (lv_at hl 1 rfl) ?_
    refine lv_iload_n hx hb dX2_setStaleTime_19 rfl (lv_at hl 2 rfl) ?_
    refine k_put (D := D) (ci := 2) (v := .int x) (ty := .int) (C := RX2) (T := TX2) (N := 16) hx hb hts hi2 tyX2 tyX2_ok nmX2 hown hK hP hD hS 0 (mO _ _ _ _) rfl 1 (by decide) (hts (.fieldLink RX2 13 "GracefulRestartModel" "staleTime" "I") (List.mem_of_getElem? (i := 1) rfl)) (fun _ h9 => h9) rfl (by decide +kernel) rfl rfl (Nat.le_of_ble_eq_true rfl) (W1 := (mW cI cZ md (s_T2 S x))) (mP_T2 _ _ _ _ _) dX2_setStaleTime_20 (fun H locs hP hD hS => ?_)
    refine lv_iload_n hx hb dX2_setStaleTime_23 rfl (lv_at hl 0 rfl) ?_
    exact k_iret hx hb hr hlk hP hS hAe ((if_pos ht).symm) (by rw [if_pos ht]) dX2_setStaleTime_24
  · refine k_top (if_neg ht) ?_
    refine lv_if_ne (tgt := 13) hx hb dX2_setStaleTime_7 (by decide) (fun c_ => absurd (by decide) c_) (fun _ => ?_)
    refine lv_bipush (v := -3) hx hb dX2_setStaleTime_10 (by decide) ?_
    exact k_iret hx hb hr hlk hP hS hAe ((if_neg ht).symm) (by rw [if_neg ht]) dX2_setStaleTime_12

set_option maxRecDepth 100000 in
set_option maxHeartbeats 4000000 in
theorem c_X2_setDeferralTime (l : Launch) (D : va_G) (cI cZ cP : ClassId) (md : Nat → Nat) (S : ST) (x : Int32) : MM l yX2_setDeferralTime wsX2_setDeferralTime ({ frames := 1, cells := 0, slots := 0, locals := 22 }) D (kTy cI cZ cP) [.ref (md 0), .int x] (mW cI cZ md S) (some (.int (if okT x then g_T3 S else -3))) (mW cI cZ md (if okT x then s_T3 S x else S)) := by
  refine MM.ofW (cc := cX2_setDeferralTime) (maxL := 3) (ret := (some .int)) (by decide) rfl (Nat.le_of_ble_eq_true rfl) ?_
  intro p e s m below meth c ls A hx hb hr hlk hml hts hown hK hN hP hD hS hAe hl
  have hown : s.vm.findClass RX2 = some m.cls := hown
  have hi2 : ∀ w ∈ wsX20, w ∈ wsX2_setDeferralTime := fun w h => List.mem_cons_of_mem _ (List.mem_append_right _ h)
  have hl : lv_has ls 3 [(0, .ref (md 0)), (1, .int x)] := hl
  refine lv_iload_n hx hb dX2_setDeferralTime_0 rfl (lv_at hl 1 rfl) ?_
  refine lv_iconst (v := 1) hx hb dX2_setDeferralTime_1 (by decide) ?_
  refine lv_bipush (v := 50) hx hb dX2_setDeferralTime_2 (by decide) ?_
  refine kS0 (As := [.int x, .int 1, .int 50]) (rest := []) (o := some (.int (if x < 1 then 0 else if 50 < x then 0 else 1))) ⟨hx, hb, hml, hown, hts⟩ (c_X2_within l D cI cZ cP x 1 50) (va_cwS 3 hts gX2_setDeferralTime_X2_within rfl rfl rfl (by decide +kernel) ⟨Nat.le_of_ble_eq_true rfl, Nat.le_of_ble_eq_true rfl⟩) hK hN hP hD hS rfl hl.1 rfl (Nat.le_of_ble_eq_true rfl) ⟨Nat.zero_le _, Nat.zero_le _⟩ dX2_setDeferralTime_4 (fun H locs hP hD hS => ?_)
  refine k_top (y := if okT x then 1 else 0) (wi_g x 1 50) ?_
  by_cases ht : okT x
  · refine k_top (if_pos ht) ?_
    refine lv_if_ne (tgt := 13) hx hb dX2_setDeferralTime_7 (by decide) (fun _ => ?_) (fun c_ => absurd c_ (by decide))
    refine lv_aload_n hx hb dX2_setDeferralTime_13 rfl (lv_at hl 0 rfl) ?_
    refine va_get (D := D) (ci := 2) (v := .int (g_T3 S)) (C := RX2) (T := TX2) (N := 16) hx hb hts hi2 hown hK hP 0 (mO _ _ _ _) rfl 2 (by decide) (hts (.fieldLink RX2 16 "GracefulRestartModel" "deferralTime" "I") (List.mem_of_getElem? (i := 1) rfl)) (fun _ h9 => h9) (mV_T3 _ _) dX2_setDeferralTime_14 ?_
    refine lv_istore_n (lv' := [(2, .int (g_T3 S)), (0, .ref (md 0)), (1, .int x)]) hx hb dX2_setDeferralTime_17 rfl hl (by decide) rfl (fun ls hl => ?_)
    refine lv_aload_n hx hb dX2_setDeferralTime_18 rfl (lv_at hl 1 rfl) ?_
    refine lv_iload_n hx hb dX2_setDeferralTime_19 rfl (lv_at hl 2 rfl) ?_
    refine k_put (D := D) (ci := 2) (v := .int x) (ty := .int) (C := RX2) (T := TX2) (N := 16) hx hb hts hi2 tyX2 tyX2_ok nmX2 hown hK hP hD hS 0 (mO _ _ _ _) rfl 2 (by decide) (hts (.fieldLink RX2 16 "GracefulRestartModel" "deferralTime" "I") (List.mem_of_getElem? (i := 1) rfl)) (fun _ h9 => h9) rfl (by decide +kernel) rfl rfl (Nat.le_of_ble_eq_true rfl) (W1 := (mW cI cZ md (s_T3 S x))) (mP_T3 _ _ _ _ _) dX2_setDeferralTime_20 (fun H locs hP hD hS => ?_)
    refine lv_iload_n hx hb dX2_setDeferralTime_23 rfl (lv_at hl 0 rfl) ?_
    exact k_iret hx hb hr hlk hP hS hAe ((if_pos ht).symm) (by rw [if_pos ht]) dX2_setDeferralTime_24
  · refine k_top (if_neg ht) ?_
    refine lv_if_ne (tgt := 13) hx hb dX2_setDeferralTime_7 (by decide) (fun c_ => absurd (by decide) c_) (fun _ => ?_)
    refine lv_bipush (v := -3) hx hb dX2_setDeferralTime_10 (by decide) ?_
    exact k_iret hx hb hr hlk hP hS hAe ((if_neg ht).symm) (by rw [if_neg ht]) dX2_setDeferralTime_12

set_option maxRecDepth 100000 in
set_option maxHeartbeats 4000000 in
theorem c_X2_isPeer (l : Launch) (D : va_G) (cI cZ cP : ClassId) (md : Nat → Nat) (S : ST) (x : Int32) (hn : g_N S ≤ 5) : MM l yX2_isPeer wsX2_isPeer ({ frames := 1, cells := 0, slots := 0, locals := 22 }) D (kTy cI cZ cP) [.ref (md 0), .int x] (mW cI cZ md S) (some (.int (if okP (g_N S) x then 1 else 0))) (mW cI cZ md S) := by
  refine MM.ofW (cc := cX2_isPeer) (maxL := 2) (ret := (some .boolean)) (by decide) rfl (Nat.le_of_ble_eq_true rfl) ?_
  intro p e s m below meth c ls A hx hb hr hlk hml hts hown hK hN hP hD hS hAe hl
  have hown : s.vm.findClass RX2 = some m.cls := hown
  have hi2 : ∀ w ∈ wsX20, w ∈ wsX2_isPeer := fun w h => List.mem_cons_of_mem _ (List.mem_append_right _ h)
  have hl : lv_has ls 2 [(0, .ref (md 0)), (1, .int x)] := hl
  refine lv_iload_n hx hb dX2_isPeer_0 rfl (lv_at hl 1 rfl) ?_
  refine lv_iconst (v := 0) hx hb dX2_isPeer_1 (by decide) ?_
  refine lv_aload_n hx hb dX2_isPeer_2 rfl (lv_at hl 0 rfl) ?_
  refine va_get (D := D) (ci := 2) (v := .int (nI (g_N S))) (C := RX2) (T := TX2) (N := 16) hx hb hts hi2 hown hK hP 0 (mO _ _ _ _) rfl 3 (by decide) (hts (.fieldLink RX2 55 "GracefulRestartModel" "peers" "I") (List.mem_of_getElem? (i := 1) rfl)) (fun _ h9 => h9) (mV_N _ _) dX2_isPeer_3 ?_
  refine lv_iconst (v := 1) hx hb dX2_isPeer_6 (by decide) ?_
  refine lv_isub hx hb dX2_isPeer_7 ?_
  refine kS0 (As := [.int x, .int 0, .int ((nI (g_N S)) - 1)]) (rest := []) (o := some (.int (if x < 0 then 0 else if ((nI (g_N S)) - 1) < x then 0 else 1))) ⟨hx, hb, hml, hown, hts⟩ (c_X2_within l D cI cZ cP x 0 ((nI (g_N S)) - 1)) (va_cwS 3 hts gX2_isPeer_X2_within rfl rfl rfl (by decide +kernel) ⟨Nat.le_of_ble_eq_true rfl, Nat.le_of_ble_eq_true rfl⟩) hK hN hP hD hS rfl hl.1 rfl (Nat.le_of_ble_eq_true rfl) ⟨Nat.zero_le _, Nat.zero_le _⟩ dX2_isPeer_8 (fun H locs hP hD hS => ?_)
  exact k_zret hx hb hr hlk hP hS hAe (by split <;> (try split) <;> rfl) (wi_P hn x) rfl dX2_isPeer_11

set_option maxRecDepth 100000 in
set_option maxHeartbeats 4000000 in
theorem c_X2_refused (l : Launch) (D : va_G) (cI cZ cP : ClassId) (md : Nat → Nat) (S : ST) (x t f : Int32) (hn : g_N S ≤ 5) : MM l yX2_refused wsX2_refused ({ frames := 2, cells := 0, slots := 0, locals := 43 }) D (kTy cI cZ cP) [.ref (md 0), .int x, .int t, .int f] (mW cI cZ md S) (some (.int (q_Rf (g_N S) x t f))) (mW cI cZ md S) := by
  refine MM.ofW (cc := cX2_refused) (maxL := 4) (ret := (some .int)) (by decide) rfl (Nat.le_of_ble_eq_true rfl) ?_
  intro p e s m below meth c ls A hx hb hr hlk hml hts hown hK hN hP hD hS hAe hl
  have hown : s.vm.findClass RX2 = some m.cls := hown
  have hi2 : ∀ w ∈ wsX20, w ∈ wsX2_refused := fun w h => List.mem_cons_of_mem _ (List.mem_append_right _ h)
  have hl : lv_has ls 4 [(0, .ref (md 0)), (1, .int x), (2, .int t), (3, .int f)] := hl
  refine lv_aload_n hx hb dX2_refused_0 rfl (lv_at hl 0 rfl) ?_
  refine lv_iload_n hx hb dX2_refused_1 rfl (lv_at hl 1 rfl) ?_
  refine kV (As := [.int x]) (rest := []) (Wc := (mW cI cZ md S)) (Wc1 := (mW cI cZ md S)) (Wd1 := (mW cI cZ md S)) (o := some (.int (if okP (g_N S) x then 1 else 0))) ⟨hx, hb, hml, hown, hts⟩ (c_X2_isPeer l D cI cZ cP md S x hn) (cwV 1 hts gX2_refused_X2_isPeer rfl rfl rfl (by decide +kernel) ⟨Nat.le_of_ble_eq_true rfl, Nat.le_of_ble_eq_true rfl⟩) hK hN hP hD hS (fun j => j) (fun _ _ h => h) (fun _ _ _ _ h => h) (mAdr _ _ _ _ _) (fun k q h => Or.inl ⟨k, h⟩) 0 2 rfl rfl (mO _ _ _ _) rfl hl.1 rfl (Nat.le_of_ble_eq_true rfl) ⟨Nat.zero_le _, Nat.zero_le _⟩ dX2_refused_2 (fun H locs hP hD hS => ?_)
  by_cases hp : okP (g_N S) x
  · refine k_top (if_pos hp) ?_
    refine lv_if_ne (tgt := 12) hx hb dX2_refused_5 (by decide) (fun _ => ?_) (fun c_ => absurd c_ (by decide))
    refine lv_iload_n hx hb dX2_refused_12 rfl (lv_at hl 2 rfl) ?_
    refine lv_iload_n hx hb dX2_refused_13 rfl (lv_at hl 3 rfl) ?_
    refine kS0 (As := [.int t, .int f]) (rest := []) (o := some (.int (if okR t f then 1 else 0))) ⟨hx, hb, hml, hown, hts⟩ (c_X2_isRoute l D cI cZ cP t f) (va_cwS 2 hts gX2_refused_X2_isRoute rfl rfl rfl (by decide +kernel) ⟨Nat.le_of_ble_eq_true rfl, Nat.le_of_ble_eq_true rfl⟩) hK hN hP hD hS rfl hl.1 rfl (Nat.le_of_ble_eq_true rfl) ⟨Nat.zero_le _, Nat.zero_le _⟩ dX2_refused_14 (fun H locs hP hD hS => ?_)
    by_cases hr9 : okR t f
    · refine k_top (if_pos hr9) ?_
      refine lv_if_ne (tgt := 25) hx hb dX2_refused_17 (by decide) (fun _ => ?_) (fun c_ => absurd c_ (by decide))
      refine lv_iconst (v := 0) hx hb dX2_refused_25 (by decide) ?_
      exact k_iret hx hb hr hlk hP hS hAe (by rw [q_Rf, if_pos hp, if_pos hr9]) rfl dX2_refused_26
    · refine k_top (if_neg hr9) ?_
      refine lv_if_ne (tgt := 25) hx hb dX2_refused_17 (by decide) (fun c_ => absurd (by decide) c_) (fun _ => ?_)
      refine lv_bipush (v := -2) hx hb dX2_refused_20 (by decide) ?_
      refine lv_goto (tgt := 26) hx hb dX2_refused_22 (by decide) ?_
      exact k_iret hx hb hr hlk hP hS hAe (by rw [q_Rf, if_pos hp, if_neg hr9]) rfl dX2_refused_26
  · refine k_top (if_neg hp) ?_
    refine lv_if_ne (tgt := 12) hx hb dX2_refused_5 (by decide) (fun c_ => absurd (by decide) c_) (fun _ => ?_)
    refine lv_iconst (v := -1) hx hb dX2_refused_8 (by decide) ?_
    refine lv_goto (tgt := 26) hx hb dX2_refused_9 (by decide) ?_
    exact k_iret hx hb hr hlk hP hS hAe (by rw [q_Rf, if_neg hp]) rfl dX2_refused_26

set_option maxRecDepth 100000 in
set_option maxHeartbeats 4000000 in
theorem c_X2_isDeferring (l : Launch) (D : va_G) (cI cZ cP : ClassId) (md : Nat → Nat) (S : ST)  : MM l yX2_isDeferring wsX2_isDeferring ({ frames := 0, cells := 0, slots := 0, locals := 0 }) D (kTy cI cZ cP) [.ref (md 0)] (mW cI cZ md S) (some (.int (if g_Df S = 0 then 0 else 1))) (mW cI cZ md S) := by
  refine MM.ofW (cc := cX2_isDeferring) (maxL := 1) (ret := (some .int)) (by decide) rfl (Nat.le_of_ble_eq_true rfl) ?_
  intro p e s m below meth c ls A hx hb hr hlk hml hts hown hK hN hP hD hS hAe hl
  have hown : s.vm.findClass RX2 = some m.cls := hown
  have hi2 : ∀ w ∈ wsX20, w ∈ wsX2_isDeferring := fun w h => List.mem_cons_of_mem _ (List.mem_append_right _ h)
  have hl : lv_has ls 1 [(0, .ref (md 0))] := hl
  refine lv_aload_n hx hb dX2_isDeferring_0 rfl (lv_at hl 0 rfl) ?_
  refine va_get (D := D) (ci := 2) (v := .int (g_Df S)) (C := RX2) (T := TX2) (N := 16) hx hb hts hi2 hown hK hP 0 (mO _ _ _ _) rfl 14 (by decide) (hts (.fieldLink RX2 70 "GracefulRestartModel" "isDeferringNow" "Z") (List.mem_of_getElem? (i := 1) rfl)) (fun _ h9 => h9) (mV_Df _ _) dX2_isDeferring_1 ?_
  refine lv_if_eq (tgt := 11) hx hb dX2_isDeferring_4 (by decide) (fun c_4 => ?_) (fun c_4 => ?_)
  · refine lv_iconst (v := 0) hx hb dX2_isDeferring_11 (by decide) ?_
    exact k_iret hx hb hr hlk hP hS hAe (by simp [c_4]) rfl dX2_isDeferring_12
  · refine lv_iconst (v := 1) hx hb dX2_isDeferring_7 (by decide) ?_
    refine lv_goto (tgt := 12) hx hb dX2_isDeferring_8 (by decide) ?_
    exact k_iret hx hb hr hlk hP hS hAe (by simp [c_4]) rfl dX2_isDeferring_12

set_option maxRecDepth 100000 in
set_option maxHeartbeats 4000000 in
theorem c_X2_deferralTimer (l : Launch) (D : va_G) (cI cZ cP : ClassId) (md : Nat → Nat) (S : ST)  : MM l yX2_deferralTimer wsX2_deferralTimer ({ frames := 0, cells := 0, slots := 0, locals := 0 }) D (kTy cI cZ cP) [.ref (md 0)] (mW cI cZ md S) (some (.int (g_Dl S))) (mW cI cZ md S) := by
  refine MM.ofW (cc := cX2_deferralTimer) (maxL := 1) (ret := (some .int)) (by decide) rfl (Nat.le_of_ble_eq_true rfl) ?_
  intro p e s m below meth c ls A hx hb hr hlk hml hts hown hK hN hP hD hS hAe hl
  have hown : s.vm.findClass RX2 = some m.cls := hown
  have hi2 : ∀ w ∈ wsX20, w ∈ wsX2_deferralTimer := fun w h => List.mem_cons_of_mem _ (List.mem_append_right _ h)
  have hl : lv_has ls 1 [(0, .ref (md 0))] := hl
  refine lv_aload_n hx hb dX2_deferralTimer_0 rfl (lv_at hl 0 rfl) ?_
  refine va_get (D := D) (ci := 2) (v := .int (g_Dl S)) (C := RX2) (T := TX2) (N := 16) hx hb hts hi2 hown hK hP 0 (mO _ _ _ _) rfl 15 (by decide) (hts (.fieldLink RX2 78 "GracefulRestartModel" "deferralTimerNow" "I") (List.mem_of_getElem? (i := 1) rfl)) (fun _ h9 => h9) (mV_Dl _ _) dX2_deferralTimer_1 ?_
  exact k_iret hx hb hr hlk hP hS hAe rfl rfl dX2_deferralTimer_4

set_option maxRecDepth 100000 in
set_option maxHeartbeats 4000000 in
theorem c_X2_sessionState (l : Launch) (D : va_G) (cI cZ cP : ClassId) (md : Nat → Nat) (S : ST) (x : Int32) (hn : g_N S ≤ 5) : MM l yX2_sessionState wsX2_sessionState ({ frames := 2, cells := 0, slots := 0, locals := 43 }) D (kTy cI cZ cP) [.ref (md 0), .int x] (mW cI cZ md S) (some (.int (if okP (g_N S) x then g_St S (kx x) else -1))) (mW cI cZ md S) := by
  refine MM.ofW (cc := cX2_sessionState) (maxL := 2) (ret := (some .int)) (by decide) rfl (Nat.le_of_ble_eq_true rfl) ?_
  intro p e s m below meth c ls A hx hb hr hlk hml hts hown hK hN hP hD hS hAe hl
  have hown : s.vm.findClass RX2 = some m.cls := hown
  have hi2 : ∀ w ∈ wsX20, w ∈ wsX2_sessionState := fun w h => List.mem_cons_of_mem _ (List.mem_append_right _ h)
  have hl : lv_has ls 2 [(0, .ref (md 0)), (1, .int x)] := hl
  refine lv_aload_n hx hb dX2_sessionState_0 rfl (lv_at hl 0 rfl) ?_
  refine lv_iload_n hx hb dX2_sessionState_1 rfl (lv_at hl 1 rfl) ?_
  refine kV (As := [.int x]) (rest := []) (Wc := (mW cI cZ md S)) (Wc1 := (mW cI cZ md S)) (Wd1 := (mW cI cZ md S)) (o := some (.int (if okP (g_N S) x then 1 else 0))) ⟨hx, hb, hml, hown, hts⟩ (c_X2_isPeer l D cI cZ cP md S x hn) (cwV 1 hts gX2_sessionState_X2_isPeer rfl rfl rfl (by decide +kernel) ⟨Nat.le_of_ble_eq_true rfl, Nat.le_of_ble_eq_true rfl⟩) hK hN hP hD hS (fun j => j) (fun _ _ h => h) (fun _ _ _ _ h => h) (mAdr _ _ _ _ _) (fun k q h => Or.inl ⟨k, h⟩) 0 2 rfl rfl (mO _ _ _ _) rfl hl.1 rfl (Nat.le_of_ble_eq_true rfl) ⟨Nat.zero_le _, Nat.zero_le _⟩ dX2_sessionState_2 (fun H locs hP hD hS => ?_)
  by_cases hp : okP (g_N S) x
  · refine k_top (if_pos hp) ?_
    obtain ⟨k, hk, rfl⟩ := okP_nat hn hp
    have hk5 : k < 5 := by omega
    have kxe : kx (nI k) = k := kx_n (by omega)
    refine lv_if_eq (tgt := 17) hx hb dX2_sessionState_5 (by decide) (fun c_ => absurd c_ (by decide)) (fun _ => ?_)
    refine lv_aload_n hx hb dX2_sessionState_8 rfl (lv_at hl 0 rfl) ?_
    refine va_get (D := D) (ci := 2) (v := .ref (md 2)) (C := RX2) (T := TX2) (N := 16) hx hb hts hi2 hown hK hP 0 (mO _ _ _ _) rfl 5 (by decide) (hts (.fieldLink RX2 23 "GracefulRestartModel" "stateOf" "[I") (List.mem_of_getElem? (i := 1) rfl)) (fun _ h9 => h9) (mV_5 _ _) dX2_sessionState_9 ?_
    refine lv_iload_n hx hb dX2_sessionState_12 rfl (lv_at hl 1 rfl) ?_
    refine k_iald (k := k) hx hb hK hP 2 0 (mG_St _ _ _ _) rfl rfl (by omega) (by decide) dX2_sessionState_13 ?_
    refine lv_goto (tgt := 18) hx hb dX2_sessionState_14 (by decide) ?_
    exact k_iret hx hb hr hlk hP hS hAe (by rw [if_pos hp, kxe]) rfl dX2_sessionState_18
  · refine k_top (if_neg hp) ?_
    refine lv_if_eq (tgt := 17) hx hb dX2_sessionState_5 (by decide) (fun _ => ?_) (fun c_ => absurd (by decide) c_)
    refine lv_iconst (v := -1) hx hb dX2_sessionState_17 (by decide) ?_
    exact k_iret hx hb hr hlk hP hS hAe (by rw [if_neg hp]) rfl dX2_sessionState_18

set_option maxRecDepth 100000 in
set_option maxHeartbeats 4000000 in
theorem c_X2_restartTimer (l : Launch) (D : va_G) (cI cZ cP : ClassId) (md : Nat → Nat) (S : ST) (x : Int32) (hn : g_N S ≤ 5) : MM l yX2_restartTimer wsX2_restartTimer ({ frames := 2, cells := 0, slots := 0, locals := 43 }) D (kTy cI cZ cP) [.ref (md 0), .int x] (mW cI cZ md S) (some (.int (if okP (g_N S) x then g_Rt S (kx x) else -1))) (mW cI cZ md S) := by
  refine MM.ofW (cc := cX2_restartTimer) (maxL := 2) (ret := (some .int)) (by decide) rfl (Nat.le_of_ble_eq_true rfl) ?_
  intro p e s m below meth c ls A hx hb hr hlk hml hts hown hK hN hP hD hS hAe hl
  have hown : s.vm.findClass RX2 = some m.cls := hown
  have hi2 : ∀ w ∈ wsX20, w ∈ wsX2_restartTimer := fun w h => List.mem_cons_of_mem _ (List.mem_append_right _ h)
  have hl : lv_has ls 2 [(0, .ref (md 0)), (1, .int x)] := hl
  refine lv_aload_n hx hb dX2_restartTimer_0 rfl (lv_at hl 0 rfl) ?_
  refine lv_iload_n hx hb dX2_restartTimer_1 rfl (lv_at hl 1 rfl) ?_
  refine kV (As := [.int x]) (rest := []) (Wc := (mW cI cZ md S)) (Wc1 := (mW cI cZ md S)) (Wd1 := (mW cI cZ md S)) (o := some (.int (if okP (g_N S) x then 1 else 0))) ⟨hx, hb, hml, hown, hts⟩ (c_X2_isPeer l D cI cZ cP md S x hn) (cwV 1 hts gX2_restartTimer_X2_isPeer rfl rfl rfl (by decide +kernel) ⟨Nat.le_of_ble_eq_true rfl, Nat.le_of_ble_eq_true rfl⟩) hK hN hP hD hS (fun j => j) (fun _ _ h => h) (fun _ _ _ _ h => h) (mAdr _ _ _ _ _) (fun k q h => Or.inl ⟨k, h⟩) 0 2 rfl rfl (mO _ _ _ _) rfl hl.1 rfl (Nat.le_of_ble_eq_true rfl) ⟨Nat.zero_le _, Nat.zero_le _⟩ dX2_restartTimer_2 (fun H locs hP hD hS => ?_)
  by_cases hp : okP (g_N S) x
  · refine k_top (if_pos hp) ?_
    obtain ⟨k, hk, rfl⟩ := okP_nat hn hp
    have hk5 : k < 5 := by omega
    have kxe : kx (nI k) = k := kx_n (by omega)
    refine lv_if_eq (tgt := 17) hx hb dX2_restartTimer_5 (by decide) (fun c_ => absurd c_ (by decide)) (fun _ => ?_)
    refine lv_aload_n hx hb dX2_restartTimer_8 rfl (lv_at hl 0 rfl) ?_
    refine va_get (D := D) (ci := 2) (v := .ref (md 3)) (C := RX2) (T := TX2) (N := 16) hx hb hts hi2 hown hK hP 0 (mO _ _ _ _) rfl 6 (by decide) (hts (.fieldLink RX2 27 "GracefulRestartModel" "restartTimerOf" "[I") (List.mem_of_getElem? (i := 1) rfl)) (fun _ h9 => h9) (mV_6 _ _) dX2_restartTimer_9 ?_
    refine lv_iload_n hx hb dX2_restartTimer_12 rfl (lv_at hl 1 rfl) ?_
    refine k_iald (k := k) hx hb hK hP 3 0 (mG_Rt _ _ _ _) rfl rfl (by omega) (by decide) dX2_restartTimer_13 ?_
    refine lv_goto (tgt := 18) hx hb dX2_restartTimer_14 (by decide) ?_
    exact k_iret hx hb hr hlk hP hS hAe (by rw [if_pos hp, kxe]) rfl dX2_restartTimer_18
  · refine k_top (if_neg hp) ?_
    refine lv_if_eq (tgt := 17) hx hb dX2_restartTimer_5 (by decide) (fun _ => ?_) (fun c_ => absurd (by decide) c_)
    refine lv_iconst (v := -1) hx hb dX2_restartTimer_17 (by decide) ?_
    exact k_iret hx hb hr hlk hP hS hAe (by rw [if_neg hp]) rfl dX2_restartTimer_18

set_option maxRecDepth 100000 in
set_option maxHeartbeats 4000000 in
theorem c_X2_staleTimer (l : Launch) (D : va_G) (cI cZ cP : ClassId) (md : Nat → Nat) (S : ST) (x : Int32) (hn : g_N S ≤ 5) : MM l yX2_staleTimer wsX2_staleTimer ({ frames := 2, cells := 0, slots := 0, locals := 43 }) D (kTy cI cZ cP) [.ref (md 0), .int x] (mW cI cZ md S) (some (.int (if okP (g_N S) x then g_Sl S (kx x) else -1))) (mW cI cZ md S) := by
  refine MM.ofW (cc := cX2_staleTimer) (maxL := 2) (ret := (some .int)) (by decide) rfl (Nat.le_of_ble_eq_true rfl) ?_
  intro p e s m below meth c ls A hx hb hr hlk hml hts hown hK hN hP hD hS hAe hl
  have hown : s.vm.findClass RX2 = some m.cls := hown
  have hi2 : ∀ w ∈ wsX20, w ∈ wsX2_staleTimer := fun w h => List.mem_cons_of_mem _ (List.mem_append_right _ h)
  have hl : lv_has ls 2 [(0, .ref (md 0)), (1, .int x)] := hl
  refine lv_aload_n hx hb dX2_staleTimer_0 rfl (lv_at hl 0 rfl) ?_
  refine lv_iload_n hx hb dX2_staleTimer_1 rfl (lv_at hl 1 rfl) ?_
  refine kV (As := [.int x]) (rest := []) (Wc := (mW cI cZ md S)) (Wc1 := (mW cI cZ md S)) (Wd1 := (mW cI cZ md S)) (o := some (.int (if okP (g_N S) x then 1 else 0))) ⟨hx, hb, hml, hown, hts⟩ (c_X2_isPeer l D cI cZ cP md S x hn) (cwV 1 hts gX2_staleTimer_X2_isPeer rfl rfl rfl (by decide +kernel) ⟨Nat.le_of_ble_eq_true rfl, Nat.le_of_ble_eq_true rfl⟩) hK hN hP hD hS (fun j => j) (fun _ _ h => h) (fun _ _ _ _ h => h) (mAdr _ _ _ _ _) (fun k q h => Or.inl ⟨k, h⟩) 0 2 rfl rfl (mO _ _ _ _) rfl hl.1 rfl (Nat.le_of_ble_eq_true rfl) ⟨Nat.zero_le _, Nat.zero_le _⟩ dX2_staleTimer_2 (fun H locs hP hD hS => ?_)
  by_cases hp : okP (g_N S) x
  · refine k_top (if_pos hp) ?_
    obtain ⟨k, hk, rfl⟩ := okP_nat hn hp
    have hk5 : k < 5 := by omega
    have kxe : kx (nI k) = k := kx_n (by omega)
    refine lv_if_eq (tgt := 17) hx hb dX2_staleTimer_5 (by decide) (fun c_ => absurd c_ (by decide)) (fun _ => ?_)
    refine lv_aload_n hx hb dX2_staleTimer_8 rfl (lv_at hl 0 rfl) ?_
    refine va_get (D := D) (ci := 2) (v := .ref (md 4)) (C := RX2) (T := TX2) (N := 16) hx hb hts hi2 hown hK hP 0 (mO _ _ _ _) rfl 7 (by decide) (hts (.fieldLink RX2 30 "GracefulRestartModel" "staleTimerOf" "[I") (List.mem_of_getElem? (i := 1) rfl)) (fun _ h9 => h9) (mV_7 _ _) dX2_staleTimer_9 ?_
    refine lv_iload_n hx hb dX2_staleTimer_12 rfl (lv_at hl 1 rfl) ?_
    refine k_iald (k := k) hx hb hK hP 4 0 (mG_Sl _ _ _ _) rfl rfl (by omega) (by decide) dX2_staleTimer_13 ?_
    refine lv_goto (tgt := 18) hx hb dX2_staleTimer_14 (by decide) ?_
    exact k_iret hx hb hr hlk hP hS hAe (by rw [if_pos hp, kxe]) rfl dX2_staleTimer_18
  · refine k_top (if_neg hp) ?_
    refine lv_if_eq (tgt := 17) hx hb dX2_staleTimer_5 (by decide) (fun _ => ?_) (fun c_ => absurd (by decide) c_)
    refine lv_iconst (v := -1) hx hb dX2_staleTimer_17 (by decide) ?_
    exact k_iret hx hb hr hlk hP hS hAe (by rw [if_neg hp]) rfl dX2_staleTimer_18

set_option maxRecDepth 100000 in
set_option maxHeartbeats 4000000 in
theorem c_X2_nextHop (l : Launch) (D : va_G) (cI cZ cP : ClassId) (md : Nat → Nat) (S : ST) (t f : Int32) : MM l yX2_nextHop wsX2_nextHop ({ frames := 2, cells := 0, slots := 0, locals := 43 }) D (kTy cI cZ cP) [.ref (md 0), .int t, .int f] (mW cI cZ md S) (some (.int (if okR t f then g_Ho S (rx t f) else -2))) (mW cI cZ md S) := by
  refine MM.ofW (cc := cX2_nextHop) (maxL := 3) (ret := (some .int)) (by decide) rfl (Nat.le_of_ble_eq_true rfl) ?_
  intro p e s m below meth c ls A hx hb hr hlk hml hts hown hK hN hP hD hS hAe hl
  have hown : s.vm.findClass RX2 = some m.cls := hown
  have hi2 : ∀ w ∈ wsX20, w ∈ wsX2_nextHop := fun w h => List.mem_cons_of_mem _ (List.mem_append_right _ h)
  have hl : lv_has ls 3 [(0, .ref (md 0)), (1, .int t), (2, .int f)] := hl
  refine lv_iload_n hx hb dX2_nextHop_0 rfl (lv_at hl 1 rfl) ?_
  refine lv_iload_n hx hb dX2_nextHop_1 rfl (lv_at hl 2 rfl) ?_
  refine kS0 (As := [.int t, .int f]) (rest := []) (o := some (.int (if okR t f then 1 else 0))) ⟨hx, hb, hml, hown, hts⟩ (c_X2_isRoute l D cI cZ cP t f) (va_cwS 2 hts gX2_nextHop_X2_isRoute rfl rfl rfl (by decide +kernel) ⟨Nat.le_of_ble_eq_true rfl, Nat.le_of_ble_eq_true rfl⟩) hK hN hP hD hS rfl hl.1 rfl (Nat.le_of_ble_eq_true rfl) ⟨Nat.zero_le _, Nat.zero_le _⟩ dX2_nextHop_2 (fun H locs hP hD hS => ?_)
  by_cases hr9 : okR t f
  · refine k_top (if_pos hr9) ?_
    obtain ⟨a9, b9, ha9, hb9, rfl, rfl⟩ := okR_nat hr9
    have rxe : rx (nI a9) (nI b9) = 8 * a9 + b9 := rx_n (by omega) (by omega)
    have hr16 : 8 * a9 + b9 < 16 := by omega
    refine lv_if_eq (tgt := 22) hx hb dX2_nextHop_5 (by decide) (fun c_ => absurd c_ (by decide)) (fun _ => ?_)
    refine lv_aload_n hx hb dX2_nextHop_8 rfl (lv_at hl 0 rfl) ?_
    refine va_get (D := D) (ci := 2) (v := .ref (md 9)) (C := RX2) (T := TX2) (N := 16) hx hb hts hi2 hown hK hP 0 (mO _ _ _ _) rfl 12 (by decide) (hts (.fieldLink RX2 45 "GracefulRestartModel" "hopOf" "[I") (List.mem_of_getElem? (i := 1) rfl)) (fun _ h9 => h9) (mV_12 _ _) dX2_nextHop_9 ?_
    refine lv_bipush (v := 8) hx hb dX2_nextHop_12 (by decide) ?_
    refine lv_iload_n hx hb dX2_nextHop_14 rfl (lv_at hl 1 rfl) ?_
    refine lv_imul hx hb dX2_nextHop_15 ?_
    refine k_top (nx8 a9) ?_
    refine lv_iload_n hx hb dX2_nextHop_16 rfl (lv_at hl 2 rfl) ?_
    refine lv_iadd hx hb dX2_nextHop_17 ?_
    refine k_top (nI_add (8 * a9) b9) ?_
    refine k_iald (k := 8 * a9 + b9) hx hb hK hP 9 0 (mG_Ho _ _ _ _) rfl rfl (by omega) (by decide) dX2_nextHop_18 ?_
    refine lv_goto (tgt := 24) hx hb dX2_nextHop_19 (by decide) ?_
    exact k_iret hx hb hr hlk hP hS hAe (by rw [if_pos hr9, rxe]) rfl dX2_nextHop_24
  · refine k_top (if_neg hr9) ?_
    refine lv_if_eq (tgt := 22) hx hb dX2_nextHop_5 (by decide) (fun _ => ?_) (fun c_ => absurd (by decide) c_)
    refine lv_bipush (v := -2) hx hb dX2_nextHop_22 (by decide) ?_
    exact k_iret hx hb hr hlk hP hS hAe (by rw [if_neg hr9]) rfl dX2_nextHop_24

set_option maxRecDepth 100000 in
set_option maxHeartbeats 4000000 in
theorem c_X2_isEntryStale (l : Launch) (D : va_G) (cI cZ cP : ClassId) (md : Nat → Nat) (S : ST) (t f : Int32) : MM l yX2_isEntryStale wsX2_isEntryStale ({ frames := 2, cells := 0, slots := 0, locals := 43 }) D (kTy cI cZ cP) [.ref (md 0), .int t, .int f] (mW cI cZ md S) (some (.int (if okR t f then (if g_Ho S (rx t f) = -6 then -6 else if g_Hz S (rx t f) = 0 then 0 else 1) else -2))) (mW cI cZ md S) := by
  refine MM.ofW (cc := cX2_isEntryStale) (maxL := 4) (ret := (some .int)) (by decide) rfl (Nat.le_of_ble_eq_true rfl) ?_
  intro p e s m below meth c ls A hx hb hr hlk hml hts hown hK hN hP hD hS hAe hl
  have hown : s.vm.findClass RX2 = some m.cls := hown
  have hi2 : ∀ w ∈ wsX20, w ∈ wsX2_isEntryStale := fun w h => List.mem_cons_of_mem _ (List.mem_append_right _ h)
  have hl : lv_has ls 4 [(0, .ref (md 0)), (1, .int t), (2, .int f)] := hl
  refine lv_iload_n hx hb dX2_isEntryStale_0 rfl (lv_at hl 1 rfl) ?_
  refine lv_iload_n hx hb dX2_isEntryStale_1 rfl (lv_at hl 2 rfl) ?_
  refine kS0 (As := [.int t, .int f]) (rest := []) (o := some (.int (if okR t f then 1 else 0))) ⟨hx, hb, hml, hown, hts⟩ (c_X2_isRoute l D cI cZ cP t f) (va_cwS 2 hts gX2_isEntryStale_X2_isRoute rfl rfl rfl (by decide +kernel) ⟨Nat.le_of_ble_eq_true rfl, Nat.le_of_ble_eq_true rfl⟩) hK hN hP hD hS rfl hl.1 rfl (Nat.le_of_ble_eq_true rfl) ⟨Nat.zero_le _, Nat.zero_le _⟩ dX2_isEntryStale_2 (fun H locs hP hD hS => ?_)
  by_cases hr9 : okR t f
  · refine k_top (if_pos hr9) ?_
    obtain ⟨a9, b9, ha9, hb9, rfl, rfl⟩ := okR_nat hr9
    have rxe : rx (nI a9) (nI b9) = 8 * a9 + b9 := rx_n (by omega) (by omega)
    have hr16 : 8 * a9 + b9 < 16 := by omega
    refine lv_if_ne (tgt := 11) hx hb dX2_isEntryStale_5 (by decide) (fun _ => ?_) (fun c_ => absurd c_ (by decide))
    refine lv_bipush (v := 8) hx hb dX2_isEntryStale_11 (by decide) ?_
    refine lv_iload_n hx hb dX2_isEntryStale_13 rfl (lv_at hl 1 rfl) ?_
    refine lv_imul hx hb dX2_isEntryStale_14 ?_
    refine k_top (nx8 a9) ?_
    refine lv_iload_n hx hb dX2_isEntryStale_15 rfl (lv_at hl 2 rfl) ?_
    refine lv_iadd hx hb dX2_isEntryStale_16 ?_
    refine k_top (nI_add (8 * a9) b9) ?_
    refine lv_istore_n (lv' := [(3, .int (nI (8 * a9 + b9))), (0, .ref (md 0)), (1, .int (nI a9)), (2, .int (nI b9))]) hx hb dX2_isEntryStale_17 rfl hl (by decide) rfl (fun ls hl => ?_)
    refine lv_aload_n hx hb dX2_isEntryStale_18 rfl (lv_at hl 1 rfl) ?_
    refine va_get (D := D) (ci := 2) (v := .ref (md 9)) (C := RX2) (T := TX2) (N := 16) hx hb hts hi2 hown hK hP 0 (mO _ _ _ _) rfl 12 (by decide) (hts (.fieldLink RX2 45 "GracefulRestartModel" "hopOf" "[I") (List.mem_of_getElem? (i := 1) rfl)) (fun _ h9 => h9) (mV_12 _ _) dX2_isEntryStale_19 ?_
    refine lv_iload_n hx hb dX2_isEntryStale_22 rfl (lv_at hl 0 rfl) ?_
    refine k_iald (k := 8 * a9 + b9) hx hb hK hP 9 0 (mG_Ho _ _ _ _) rfl rfl (by omega) (by decide) dX2_isEntryStale_23 ?_
    refine lv_bipush (v := -6) hx hb dX2_isEntryStale_24 (by decide) ?_
    refine lv_icmp_ne (tgt := 34) hx hb dX2_isEntryStale_26 (by decide) (fun c_26 => ?_) (fun c_26 => ?_)
    · refine lv_aload_n hx hb dX2_isEntryStale_34 rfl (lv_at hl 1 rfl) ?_
      refine va_get (D := D) (ci := 2) (v := .ref (md 10)) (C := RX2) (T := TX2) (N := 16) hx hb hts hi2 hown hK hP 0 (mO _ _ _ _) rfl 13 (by decide) (hts (.fieldLink RX2 48 "GracefulRestartModel" "isStaleHop" "[Z") (List.mem_of_getElem? (i := 2) rfl)) (fun _ h9 => h9) (mV_13 _ _) dX2_isEntryStale_35 ?_
      refine lv_iload_n hx hb dX2_isEntryStale_38 rfl (lv_at hl 0 rfl) ?_
      refine k_zald (k := 8 * a9 + b9) hx hb hK hP 10 1 (mG_Hz _ _ _ _) rfl rfl (by omega) (by decide) dX2_isEntryStale_39 ?_
      refine lv_if_eq (tgt := 47) hx hb dX2_isEntryStale_40 (by decide) (fun c_40 => ?_) (fun c_40 => ?_)
      · refine lv_iconst (v := 0) hx hb dX2_isEntryStale_47 (by decide) ?_
        exact k_iret hx hb hr hlk hP hS hAe (by rw [if_pos hr9, rxe]; simp [c_26, c_40]) rfl dX2_isEntryStale_48
      · refine lv_iconst (v := 1) hx hb dX2_isEntryStale_43 (by decide) ?_
        refine lv_goto (tgt := 48) hx hb dX2_isEntryStale_44 (by decide) ?_
        exact k_iret hx hb hr hlk hP hS hAe (by rw [if_pos hr9, rxe]; simp [c_26, c_40]) rfl dX2_isEntryStale_48
    · refine lv_bipush (v := -6) hx hb dX2_isEntryStale_29 (by decide) ?_
      refine lv_goto (tgt := 48) hx hb dX2_isEntryStale_31 (by decide) ?_
      exact k_iret hx hb hr hlk hP hS hAe (by rw [if_pos hr9, rxe]; simp [c_26]) rfl dX2_isEntryStale_48
  · refine k_top (if_neg hr9) ?_
    refine lv_if_ne (tgt := 11) hx hb dX2_isEntryStale_5 (by decide) (fun c_ => absurd (by decide) c_) (fun _ => ?_)
    refine lv_bipush (v := -2) hx hb dX2_isEntryStale_8 (by decide) ?_
    exact k_iret hx hb hr hlk hP hS hAe (by rw [if_neg hr9]) rfl dX2_isEntryStale_10

set_option maxRecDepth 100000 in
set_option maxHeartbeats 4000000 in
theorem c_X2_learnedLength (l : Launch) (D : va_G) (cI cZ cP : ClassId) (md : Nat → Nat) (S : ST) (x t f : Int32) (hn : g_N S ≤ 5) : MM l yX2_learnedLength wsX2_learnedLength ({ frames := 3, cells := 0, slots := 0, locals := 66 }) D (kTy cI cZ cP) [.ref (md 0), .int x, .int t, .int f] (mW cI cZ md S) (some (.int (q_LL S x t f))) (mW cI cZ md S) := by
  refine MM.ofW (cc := cX2_learnedLength) (maxL := 6) (ret := (some .int)) (by decide) rfl (Nat.le_of_ble_eq_true rfl) ?_
  intro p e s m below meth c ls A hx hb hr hlk hml hts hown hK hN hP hD hS hAe hl
  have hown : s.vm.findClass RX2 = some m.cls := hown
  have hi2 : ∀ w ∈ wsX20, w ∈ wsX2_learnedLength := fun w h => List.mem_cons_of_mem _ (List.mem_append_right _ h)
  have hl : lv_has ls 6 [(0, .ref (md 0)), (1, .int x), (2, .int t), (3, .int f)] := hl
  refine lv_aload_n hx hb dX2_learnedLength_0 rfl (lv_at hl 0 rfl) ?_
  refine lv_iload_n hx hb dX2_learnedLength_1 rfl (lv_at hl 1 rfl) ?_
  refine lv_iload_n hx hb dX2_learnedLength_2 rfl (lv_at hl 2 rfl) ?_
  refine lv_iload_n hx hb dX2_learnedLength_3 rfl (lv_at hl 3 rfl) ?_
  refine kV (As := [.int x, .int t, .int f]) (rest := []) (Wc := (mW cI cZ md S)) (Wc1 := (mW cI cZ md S)) (Wd1 := (mW cI cZ md S)) (o := some (.int (q_Rf (g_N S) x t f))) ⟨hx, hb, hml, hown, hts⟩ (c_X2_refused l D cI cZ cP md S x t f hn) (cwV 3 hts gX2_learnedLength_X2_refused rfl rfl rfl (by decide +kernel) ⟨Nat.le_of_ble_eq_true rfl, Nat.le_of_ble_eq_true rfl⟩) hK hN hP hD hS (fun j => j) (fun _ _ h => h) (fun _ _ _ _ h => h) (mAdr _ _ _ _ _) (fun k q h => Or.inl ⟨k, h⟩) 0 2 rfl rfl (mO _ _ _ _) rfl hl.1 rfl (Nat.le_of_ble_eq_true rfl) ⟨Nat.zero_le _, Nat.zero_le _⟩ dX2_learnedLength_4 (fun H locs hP hD hS => ?_)
  by_cases hp : okP (g_N S) x
  · by_cases hr9 : okR t f
    · refine k_top (y := 0) (by rw [q_Rf, if_pos hp, if_pos hr9]) ?_
      obtain ⟨k, hk, rfl⟩ := okP_nat hn hp
      have hk5 : k < 5 := by omega
      have kxe : kx (nI k) = k := kx_n (by omega)
      obtain ⟨a9, b9, ha9, hb9, rfl, rfl⟩ := okR_nat hr9
      have rxe : rx (nI a9) (nI b9) = 8 * a9 + b9 := rx_n (by omega) (by omega)
      have hr16 : 8 * a9 + b9 < 16 := by omega
      refine lv_istore (lv' := [(4, .int 0), (0, .ref (md 0)), (1, .int (nI k)), (2, .int (nI a9)), (3, .int (nI b9))]) hx hb dX2_learnedLength_7 hl (by decide) rfl (fun ls hl => ?_)
      refine lv_iload hx hb dX2_learnedLength_9 (lv_at hl 0 rfl) ?_
      refine lv_if_eq (tgt := 17) hx hb dX2_learnedLength_11 (by decide) (fun _ => ?_) (fun c_ => absurd (by decide) c_)
      refine lv_aload_n hx hb dX2_learnedLength_17 rfl (lv_at hl 1 rfl) ?_
      refine va_get (D := D) (ci := 2) (v := .ref (md 7)) (C := RX2) (T := TX2) (N := 16) hx hb hts hi2 hown hK hP 0 (mO _ _ _ _) rfl 10 (by decide) (hts (.fieldLink RX2 39 "GracefulRestartModel" "learned" "[I") (List.mem_of_getElem? (i := 1) rfl)) (fun _ h9 => h9) (mV_10 _ _) dX2_learnedLength_18 ?_
      refine lv_bipush (v := 16) hx hb dX2_learnedLength_21 (by decide) ?_
      refine lv_iload_n hx hb dX2_learnedLength_23 rfl (lv_at hl 2 rfl) ?_
      refine lv_imul hx hb dX2_learnedLength_24 ?_
      refine k_top (nx16 k) ?_
      refine lv_bipush (v := 8) hx hb dX2_learnedLength_25 (by decide) ?_
      refine lv_iload_n hx hb dX2_learnedLength_27 rfl (lv_at hl 3 rfl) ?_
      refine lv_imul hx hb dX2_learnedLength_28 ?_
      refine k_top (nx8 a9) ?_
      refine lv_iadd hx hb dX2_learnedLength_29 ?_
      refine k_top (nI_add (16 * k) (8 * a9)) ?_
      refine lv_iload_n hx hb dX2_learnedLength_30 rfl (lv_at hl 4 rfl) ?_
      refine lv_iadd hx hb dX2_learnedLength_31 ?_
      refine k_top (nI_add (16 * k + 8 * a9) b9) ?_
      refine k_iald (k := 16 * k + (8 * a9 + b9)) hx hb hK hP 7 0 (mG_Le _ _ _ _) rfl (congrArg nI (Nat.add_assoc _ _ _)) (by omega) (by decide) dX2_learnedLength_32 ?_
      refine k_top (y := (g_Le S) k (8 * a9 + b9)) (fl_at 16 _ (p := k) (r := (8 * a9 + b9)) (by omega)) ?_
      refine lv_istore (lv' := [(5, .int ((g_Le S) k (8 * a9 + b9))), (4, .int 0), (0, .ref (md 0)), (1, .int (nI k)), (2, .int (nI a9)), (3, .int (nI b9))]) hx hb dX2_learnedLength_33 hl (by decide) rfl (fun ls hl => ?_)
      refine lv_iload hx hb dX2_learnedLength_35 (lv_at hl 0 rfl) ?_
      refine lv_if_ne (tgt := 45) hx hb dX2_learnedLength_37 (by decide) (fun c_37 => ?_) (fun c_37 => ?_)
      · refine lv_iload hx hb dX2_learnedLength_45 (lv_at hl 0 rfl) ?_
        exact k_iret hx hb hr hlk hP hS hAe (by rw [q_LL, if_pos hp, if_pos hr9, kxe, rxe]; simp [c_37]) rfl dX2_learnedLength_47
      · refine lv_bipush (v := -6) hx hb dX2_learnedLength_40 (by decide) ?_
        refine lv_goto (tgt := 47) hx hb dX2_learnedLength_42 (by decide) ?_
        exact k_iret hx hb hr hlk hP hS hAe (by rw [q_LL, if_pos hp, if_pos hr9, kxe, rxe]; simp [c_37]) rfl dX2_learnedLength_47
    · refine k_top (y := -2) (by rw [q_Rf, if_pos hp, if_neg hr9]) ?_
      obtain ⟨k, hk, rfl⟩ := okP_nat hn hp
      have hk5 : k < 5 := by omega
      have kxe : kx (nI k) = k := kx_n (by omega)
      refine lv_istore (lv' := [(4, .int (-2)), (0, .ref (md 0)), (1, .int (nI k)), (2, .int t), (3, .int f)]) hx hb dX2_learnedLength_7 hl (by decide) rfl (fun ls hl => ?_)
      refine lv_iload hx hb dX2_learnedLength_9 (lv_at hl 0 rfl) ?_
      refine lv_if_eq (tgt := 17) hx hb dX2_learnedLength_11 (by decide) (fun c_ => absurd c_ (by decide)) (fun _ => ?_)
      refine lv_iload hx hb dX2_learnedLength_14 (lv_at hl 0 rfl) ?_
      exact k_iret hx hb hr hlk hP hS hAe (by rw [q_LL, if_pos hp, if_neg hr9]) rfl dX2_learnedLength_16
  · refine k_top (y := -1) (by rw [q_Rf, if_neg hp]) ?_
    refine lv_istore (lv' := [(4, .int (-1)), (0, .ref (md 0)), (1, .int x), (2, .int t), (3, .int f)]) hx hb dX2_learnedLength_7 hl (by decide) rfl (fun ls hl => ?_)
    refine lv_iload hx hb dX2_learnedLength_9 (lv_at hl 0 rfl) ?_
    refine lv_if_eq (tgt := 17) hx hb dX2_learnedLength_11 (by decide) (fun c_ => absurd c_ (by decide)) (fun _ => ?_)
    refine lv_iload hx hb dX2_learnedLength_14 (lv_at hl 0 rfl) ?_
    exact k_iret hx hb hr hlk hP hS hAe (by rw [q_LL, if_neg hp]) rfl dX2_learnedLength_16

set_option maxRecDepth 100000 in
set_option maxHeartbeats 4000000 in
theorem c_X2_isLearnedStale (l : Launch) (D : va_G) (cI cZ cP : ClassId) (md : Nat → Nat) (S : ST) (x t f : Int32) (hn : g_N S ≤ 5) : MM l yX2_isLearnedStale wsX2_isLearnedStale ({ frames := 3, cells := 0, slots := 0, locals := 66 }) D (kTy cI cZ cP) [.ref (md 0), .int x, .int t, .int f] (mW cI cZ md S) (some (.int (q_LS S x t f))) (mW cI cZ md S) := by
  refine MM.ofW (cc := cX2_isLearnedStale) (maxL := 6) (ret := (some .int)) (by decide) rfl (Nat.le_of_ble_eq_true rfl) ?_
  intro p e s m below meth c ls A hx hb hr hlk hml hts hown hK hN hP hD hS hAe hl
  have hown : s.vm.findClass RX2 = some m.cls := hown
  have hi2 : ∀ w ∈ wsX20, w ∈ wsX2_isLearnedStale := fun w h => List.mem_cons_of_mem _ (List.mem_append_right _ h)
  have hl : lv_has ls 6 [(0, .ref (md 0)), (1, .int x), (2, .int t), (3, .int f)] := hl
  refine lv_aload_n hx hb dX2_isLearnedStale_0 rfl (lv_at hl 0 rfl) ?_
  refine lv_iload_n hx hb dX2_isLearnedStale_1 rfl (lv_at hl 1 rfl) ?_
  refine lv_iload_n hx hb dX2_isLearnedStale_2 rfl (lv_at hl 2 rfl) ?_
  refine lv_iload_n hx hb dX2_isLearnedStale_3 rfl (lv_at hl 3 rfl) ?_
  refine kV (As := [.int x, .int t, .int f]) (rest := []) (Wc := (mW cI cZ md S)) (Wc1 := (mW cI cZ md S)) (Wd1 := (mW cI cZ md S)) (o := some (.int (q_Rf (g_N S) x t f))) ⟨hx, hb, hml, hown, hts⟩ (c_X2_refused l D cI cZ cP md S x t f hn) (cwV 3 hts gX2_isLearnedStale_X2_refused rfl rfl rfl (by decide +kernel) ⟨Nat.le_of_ble_eq_true rfl, Nat.le_of_ble_eq_true rfl⟩) hK hN hP hD hS (fun j => j) (fun _ _ h => h) (fun _ _ _ _ h => h) (mAdr _ _ _ _ _) (fun k q h => Or.inl ⟨k, h⟩) 0 2 rfl rfl (mO _ _ _ _) rfl hl.1 rfl (Nat.le_of_ble_eq_true rfl) ⟨Nat.zero_le _, Nat.zero_le _⟩ dX2_isLearnedStale_4 (fun H locs hP hD hS => ?_)
  by_cases hp : okP (g_N S) x
  · by_cases hr9 : okR t f
    · refine k_top (y := 0) (by rw [q_Rf, if_pos hp, if_pos hr9]) ?_
      obtain ⟨k, hk, rfl⟩ := okP_nat hn hp
      have hk5 : k < 5 := by omega
      have kxe : kx (nI k) = k := kx_n (by omega)
      obtain ⟨a9, b9, ha9, hb9, rfl, rfl⟩ := okR_nat hr9
      have rxe : rx (nI a9) (nI b9) = 8 * a9 + b9 := rx_n (by omega) (by omega)
      have hr16 : 8 * a9 + b9 < 16 := by omega
      refine lv_istore (lv' := [(4, .int 0), (0, .ref (md 0)), (1, .int (nI k)), (2, .int (nI a9)), (3, .int (nI b9))]) hx hb dX2_isLearnedStale_7 hl (by decide) rfl (fun ls hl => ?_)
      refine lv_iload hx hb dX2_isLearnedStale_9 (lv_at hl 0 rfl) ?_
      refine lv_if_eq (tgt := 17) hx hb dX2_isLearnedStale_11 (by decide) (fun _ => ?_) (fun c_ => absurd (by decide) c_)
      refine lv_bipush (v := 16) hx hb dX2_isLearnedStale_17 (by decide) ?_
      refine lv_iload_n hx hb dX2_isLearnedStale_19 rfl (lv_at hl 2 rfl) ?_
      refine lv_imul hx hb dX2_isLearnedStale_20 ?_
      refine k_top (nx16 k) ?_
      refine lv_bipush (v := 8) hx hb dX2_isLearnedStale_21 (by decide) ?_
      refine lv_iload_n hx hb dX2_isLearnedStale_23 rfl (lv_at hl 3 rfl) ?_
      refine lv_imul hx hb dX2_isLearnedStale_24 ?_
      refine k_top (nx8 a9) ?_
      refine lv_iadd hx hb dX2_isLearnedStale_25 ?_
      refine k_top (nI_add (16 * k) (8 * a9)) ?_
      refine lv_iload_n hx hb dX2_isLearnedStale_26 rfl (lv_at hl 4 rfl) ?_
      refine lv_iadd hx hb dX2_isLearnedStale_27 ?_
      refine k_top (nI_add (16 * k + 8 * a9) b9) ?_
      refine lv_istore (lv' := [(5, .int (nI (16 * k + 8 * a9 + b9))), (4, .int 0), (0, .ref (md 0)), (1, .int (nI k)), (2, .int (nI a9)), (3, .int (nI b9))]) hx hb dX2_isLearnedStale_28 hl (by decide) rfl (fun ls hl => ?_)
      refine lv_aload_n hx hb dX2_isLearnedStale_30 rfl (lv_at hl 2 rfl) ?_
      refine va_get (D := D) (ci := 2) (v := .ref (md 7)) (C := RX2) (T := TX2) (N := 16) hx hb hts hi2 hown hK hP 0 (mO _ _ _ _) rfl 10 (by decide) (hts (.fieldLink RX2 39 "GracefulRestartModel" "learned" "[I") (List.mem_of_getElem? (i := 1) rfl)) (fun _ h9 => h9) (mV_10 _ _) dX2_isLearnedStale_31 ?_
      refine lv_iload hx hb dX2_isLearnedStale_34 (lv_at hl 0 rfl) ?_
      refine k_iald (k := 16 * k + (8 * a9 + b9)) hx hb hK hP 7 0 (mG_Le _ _ _ _) rfl (congrArg nI (Nat.add_assoc _ _ _)) (by omega) (by decide) dX2_isLearnedStale_36 ?_
      refine k_top (y := (g_Le S) k (8 * a9 + b9)) (fl_at 16 _ (p := k) (r := (8 * a9 + b9)) (by omega)) ?_
      refine lv_if_ne (tgt := 45) hx hb dX2_isLearnedStale_37 (by decide) (fun c_37 => ?_) (fun c_37 => ?_)
      · refine lv_aload_n hx hb dX2_isLearnedStale_45 rfl (lv_at hl 2 rfl) ?_
        refine va_get (D := D) (ci := 2) (v := .ref (md 8)) (C := RX2) (T := TX2) (N := 16) hx hb hts hi2 hown hK hP 0 (mO _ _ _ _) rfl 11 (by decide) (hts (.fieldLink RX2 42 "GracefulRestartModel" "isStaleAt" "[Z") (List.mem_of_getElem? (i := 2) rfl)) (fun _ h9 => h9) (mV_11 _ _) dX2_isLearnedStale_46 ?_
        refine lv_iload hx hb dX2_isLearnedStale_49 (lv_at hl 0 rfl) ?_
        refine k_zald (k := 16 * k + (8 * a9 + b9)) hx hb hK hP 8 1 (mG_Ss _ _ _ _) rfl (congrArg nI (Nat.add_assoc _ _ _)) (by omega) (by decide) dX2_isLearnedStale_51 ?_
        refine k_top (y := (g_Ss S) k (8 * a9 + b9)) (fl_at 16 _ (p := k) (r := (8 * a9 + b9)) (by omega)) ?_
        refine lv_if_eq (tgt := 59) hx hb dX2_isLearnedStale_52 (by decide) (fun c_52 => ?_) (fun c_52 => ?_)
        · refine lv_iconst (v := 0) hx hb dX2_isLearnedStale_59 (by decide) ?_
          exact k_iret hx hb hr hlk hP hS hAe (by rw [q_LS, if_pos hp, if_pos hr9, kxe, rxe]; simp [c_37, c_52]) rfl dX2_isLearnedStale_60
        · refine lv_iconst (v := 1) hx hb dX2_isLearnedStale_55 (by decide) ?_
          refine lv_goto (tgt := 60) hx hb dX2_isLearnedStale_56 (by decide) ?_
          exact k_iret hx hb hr hlk hP hS hAe (by rw [q_LS, if_pos hp, if_pos hr9, kxe, rxe]; simp [c_37, c_52]) rfl dX2_isLearnedStale_60
      · refine lv_bipush (v := -6) hx hb dX2_isLearnedStale_40 (by decide) ?_
        refine lv_goto (tgt := 60) hx hb dX2_isLearnedStale_42 (by decide) ?_
        exact k_iret hx hb hr hlk hP hS hAe (by rw [q_LS, if_pos hp, if_pos hr9, kxe, rxe]; simp [c_37]) rfl dX2_isLearnedStale_60
    · refine k_top (y := -2) (by rw [q_Rf, if_pos hp, if_neg hr9]) ?_
      obtain ⟨k, hk, rfl⟩ := okP_nat hn hp
      have hk5 : k < 5 := by omega
      have kxe : kx (nI k) = k := kx_n (by omega)
      refine lv_istore (lv' := [(4, .int (-2)), (0, .ref (md 0)), (1, .int (nI k)), (2, .int t), (3, .int f)]) hx hb dX2_isLearnedStale_7 hl (by decide) rfl (fun ls hl => ?_)
      refine lv_iload hx hb dX2_isLearnedStale_9 (lv_at hl 0 rfl) ?_
      refine lv_if_eq (tgt := 17) hx hb dX2_isLearnedStale_11 (by decide) (fun c_ => absurd c_ (by decide)) (fun _ => ?_)
      refine lv_iload hx hb dX2_isLearnedStale_14 (lv_at hl 0 rfl) ?_
      exact k_iret hx hb hr hlk hP hS hAe (by rw [q_LS, if_pos hp, if_neg hr9]) rfl dX2_isLearnedStale_16
  · refine k_top (y := -1) (by rw [q_Rf, if_neg hp]) ?_
    refine lv_istore (lv' := [(4, .int (-1)), (0, .ref (md 0)), (1, .int x), (2, .int t), (3, .int f)]) hx hb dX2_isLearnedStale_7 hl (by decide) rfl (fun ls hl => ?_)
    refine lv_iload hx hb dX2_isLearnedStale_9 (lv_at hl 0 rfl) ?_
    refine lv_if_eq (tgt := 17) hx hb dX2_isLearnedStale_11 (by decide) (fun c_ => absurd c_ (by decide)) (fun _ => ?_)
    refine lv_iload hx hb dX2_isLearnedStale_14 (lv_at hl 0 rfl) ?_
    exact k_iret hx hb hr hlk hP hS hAe (by rw [q_LS, if_neg hp]) rfl dX2_isLearnedStale_16

set_option maxRecDepth 100000 in
set_option maxHeartbeats 4000000 in
theorem c_X2_forwards (l : Launch) (D : va_G) (cI cZ cP : ClassId) (md : Nat → Nat) (S : ST) (p9 r9 : Nat) (hp9 : p9 < 5) (hr9 : r9 < 16) : MM l yX2_forwards wsX2_forwards ({ frames := 0, cells := 0, slots := 0, locals := 0 }) D (kTy cI cZ cP) [.ref (md 0), .int (nI p9), .int (nI r9)] (mW cI cZ md S) (some (.int (o_Fw S p9 r9))) (mW cI cZ md S) := by
  refine MM.ofW (cc := cX2_forwards) (maxL := 3) (ret := (some .int)) (by decide) rfl (Nat.le_of_ble_eq_true rfl) ?_
  intro p e s m below meth c ls A hx hb hr hlk hml hts hown hK hN hP hD hS hAe hl
  have hown : s.vm.findClass RX2 = some m.cls := hown
  have hi2 : ∀ w ∈ wsX20, w ∈ wsX2_forwards := fun w h => List.mem_cons_of_mem _ (List.mem_append_right _ h)
  have hl : lv_has ls 3 [(0, .ref (md 0)), (1, .int (nI p9)), (2, .int (nI r9))] := hl
  refine lv_aload_n hx hb dX2_forwards_0 rfl (lv_at hl 0 rfl) ?_
  refine va_get (D := D) (ci := 2) (v := .ref (md 7)) (C := RX2) (T := TX2) (N := 16) hx hb hts hi2 hown hK hP 0 (mO _ _ _ _) rfl 10 (by decide) (hts (.fieldLink RX2 39 "GracefulRestartModel" "learned" "[I") (List.mem_of_getElem? (i := 1) rfl)) (fun _ h9 => h9) (mV_10 _ _) dX2_forwards_1 ?_
  refine lv_bipush (v := 16) hx hb dX2_forwards_4 (by decide) ?_
  refine lv_iload_n hx hb dX2_forwards_6 rfl (lv_at hl 1 rfl) ?_
  refine lv_imul hx hb dX2_forwards_7 ?_
  refine k_top (nx16 p9) ?_
  refine lv_iload_n hx hb dX2_forwards_8 rfl (lv_at hl 2 rfl) ?_
  refine lv_iadd hx hb dX2_forwards_9 ?_
  refine k_top (nI_add (16 * p9) r9) ?_
  refine k_iald (k := 16 * p9 + r9) hx hb hK hP 7 0 (mG_Le _ _ _ _) rfl rfl (by omega) (by decide) dX2_forwards_10 ?_
  refine k_top (y := (g_Le S) p9 r9) (fl_at 16 _ (p := p9) (r := r9) (by omega)) ?_
  refine lv_if_ne (tgt := 17) hx hb dX2_forwards_11 (by decide) (fun c_11 => ?_) (fun c_11 => ?_)
  · refine lv_aload_n hx hb dX2_forwards_17 rfl (lv_at hl 0 rfl) ?_
    refine va_get (D := D) (ci := 2) (v := .ref (md 9)) (C := RX2) (T := TX2) (N := 16) hx hb hts hi2 hown hK hP 0 (mO _ _ _ _) rfl 12 (by decide) (hts (.fieldLink RX2 45 "GracefulRestartModel" "hopOf" "[I") (List.mem_of_getElem? (i := 2) rfl)) (fun _ h9 => h9) (mV_12 _ _) dX2_forwards_18 ?_
    refine lv_iload_n hx hb dX2_forwards_21 rfl (lv_at hl 2 rfl) ?_
    refine k_iald (k := r9) hx hb hK hP 9 0 (mG_Ho _ _ _ _) rfl rfl (by omega) (by decide) dX2_forwards_22 ?_
    refine lv_bipush (v := -6) hx hb dX2_forwards_23 (by decide) ?_
    refine lv_icmp_ne (tgt := 33) hx hb dX2_forwards_25 (by decide) (fun c_25 => ?_) (fun c_25 => ?_)
    · refine lv_aload_n hx hb dX2_forwards_33 rfl (lv_at hl 0 rfl) ?_
      refine va_get (D := D) (ci := 2) (v := .ref (md 9)) (C := RX2) (T := TX2) (N := 16) hx hb hts hi2 hown hK hP 0 (mO _ _ _ _) rfl 12 (by decide) (hts (.fieldLink RX2 45 "GracefulRestartModel" "hopOf" "[I") (List.mem_of_getElem? (i := 2) rfl)) (fun _ h9 => h9) (mV_12 _ _) dX2_forwards_34 ?_
      refine lv_iload_n hx hb dX2_forwards_37 rfl (lv_at hl 2 rfl) ?_
      refine k_iald (k := r9) hx hb hK hP 9 0 (mG_Ho _ _ _ _) rfl rfl (by omega) (by decide) dX2_forwards_38 ?_
      refine lv_iload_n hx hb dX2_forwards_39 rfl (lv_at hl 1 rfl) ?_
      refine lv_icmp_ne (tgt := 48) hx hb dX2_forwards_40 (by decide) (fun c_40 => ?_) (fun c_40 => ?_)
      · refine lv_aload_n hx hb dX2_forwards_48 rfl (lv_at hl 0 rfl) ?_
        refine va_get (D := D) (ci := 2) (v := .ref (md 9)) (C := RX2) (T := TX2) (N := 16) hx hb hts hi2 hown hK hP 0 (mO _ _ _ _) rfl 12 (by decide) (hts (.fieldLink RX2 45 "GracefulRestartModel" "hopOf" "[I") (List.mem_of_getElem? (i := 2) rfl)) (fun _ h9 => h9) (mV_12 _ _) dX2_forwards_49 ?_
        refine lv_iload_n hx hb dX2_forwards_52 rfl (lv_at hl 2 rfl) ?_
        refine k_iald (k := r9) hx hb hK hP 9 0 (mG_Ho _ _ _ _) rfl rfl (by omega) (by decide) dX2_forwards_53 ?_
        exact k_iret hx hb hr hlk hP hS hAe (by rw [o_Fw, if_neg c_11, if_neg c_25, if_neg c_40]) rfl dX2_forwards_54
      · refine lv_bipush (v := -8) hx hb dX2_forwards_43 (by decide) ?_
        refine lv_goto (tgt := 54) hx hb dX2_forwards_45 (by decide) ?_
        exact k_iret hx hb hr hlk hP hS hAe (by rw [o_Fw, if_neg c_11, if_neg c_25, if_pos c_40]) rfl dX2_forwards_54
    · refine lv_bipush (v := -7) hx hb dX2_forwards_28 (by decide) ?_
      refine lv_goto (tgt := 54) hx hb dX2_forwards_30 (by decide) ?_
      exact k_iret hx hb hr hlk hP hS hAe (by rw [o_Fw, if_neg c_11, if_pos c_25]) rfl dX2_forwards_54
  · refine lv_bipush (v := -6) hx hb dX2_forwards_14 (by decide) ?_
    exact k_iret hx hb hr hlk hP hS hAe (by rw [o_Fw, if_pos c_11]) rfl dX2_forwards_16

set_option maxRecDepth 100000 in
set_option maxHeartbeats 4000000 in
theorem c_X2_forward (l : Launch) (D : va_G) (cI cZ cP : ClassId) (md : Nat → Nat) (S : ST) (x t f : Int32) (hn : g_N S ≤ 5) : MM l yX2_forward wsX2_forward ({ frames := 3, cells := 0, slots := 0, locals := 66 }) D (kTy cI cZ cP) [.ref (md 0), .int x, .int t, .int f] (mW cI cZ md S) (some (.int (q_Fw S x t f))) (mW cI cZ md S) := by
  refine MM.ofW (cc := cX2_forward) (maxL := 5) (ret := (some .int)) (by decide) rfl (Nat.le_of_ble_eq_true rfl) ?_
  intro p e s m below meth c ls A hx hb hr hlk hml hts hown hK hN hP hD hS hAe hl
  have hown : s.vm.findClass RX2 = some m.cls := hown
  have hi2 : ∀ w ∈ wsX20, w ∈ wsX2_forward := fun w h => List.mem_cons_of_mem _ (List.mem_append_right _ h)
  have hl : lv_has ls 5 [(0, .ref (md 0)), (1, .int x), (2, .int t), (3, .int f)] := hl
  refine lv_aload_n hx hb dX2_forward_0 rfl (lv_at hl 0 rfl) ?_
  refine lv_iload_n hx hb dX2_forward_1 rfl (lv_at hl 1 rfl) ?_
  refine lv_iload_n hx hb dX2_forward_2 rfl (lv_at hl 2 rfl) ?_
  refine lv_iload_n hx hb dX2_forward_3 rfl (lv_at hl 3 rfl) ?_
  refine kV (As := [.int x, .int t, .int f]) (rest := []) (Wc := (mW cI cZ md S)) (Wc1 := (mW cI cZ md S)) (Wd1 := (mW cI cZ md S)) (o := some (.int (q_Rf (g_N S) x t f))) ⟨hx, hb, hml, hown, hts⟩ (c_X2_refused l D cI cZ cP md S x t f hn) (cwV 3 hts gX2_forward_X2_refused rfl rfl rfl (by decide +kernel) ⟨Nat.le_of_ble_eq_true rfl, Nat.le_of_ble_eq_true rfl⟩) hK hN hP hD hS (fun j => j) (fun _ _ h => h) (fun _ _ _ _ h => h) (mAdr _ _ _ _ _) (fun k q h => Or.inl ⟨k, h⟩) 0 2 rfl rfl (mO _ _ _ _) rfl hl.1 rfl (Nat.le_of_ble_eq_true rfl) ⟨Nat.zero_le _, Nat.zero_le _⟩ dX2_forward_4 (fun H locs hP hD hS => ?_)
  by_cases hp : okP (g_N S) x
  · by_cases hr9 : okR t f
    · refine k_top (y := 0) (by rw [q_Rf, if_pos hp, if_pos hr9]) ?_
      obtain ⟨k, hk, rfl⟩ := okP_nat hn hp
      have hk5 : k < 5 := by omega
      have kxe : kx (nI k) = k := kx_n (by omega)
      obtain ⟨a9, b9, ha9, hb9, rfl, rfl⟩ := okR_nat hr9
      have rxe : rx (nI a9) (nI b9) = 8 * a9 + b9 := rx_n (by omega) (by omega)
      have hr16 : 8 * a9 + b9 < 16 := by omega
      refine lv_istore (lv' := [(4, .int 0), (0, .ref (md 0)), (1, .int (nI k)), (2, .int (nI a9)), (3, .int (nI b9))]) hx hb dX2_forward_7 hl (by decide) rfl (fun ls hl => ?_)
      refine lv_iload hx hb dX2_forward_9 (lv_at hl 0 rfl) ?_
      refine lv_if_eq (tgt := 19) hx hb dX2_forward_11 (by decide) (fun _ => ?_) (fun c_ => absurd (by decide) c_)
      refine lv_aload_n hx hb dX2_forward_19 rfl (lv_at hl 1 rfl) ?_
      refine lv_iload_n hx hb dX2_forward_20 rfl (lv_at hl 2 rfl) ?_
      refine lv_bipush (v := 8) hx hb dX2_forward_21 (by decide) ?_
      refine lv_iload_n hx hb dX2_forward_23 rfl (lv_at hl 3 rfl) ?_
      refine lv_imul hx hb dX2_forward_24 ?_
      refine k_top (nx8 a9) ?_
      refine lv_iload_n hx hb dX2_forward_25 rfl (lv_at hl 4 rfl) ?_
      refine lv_iadd hx hb dX2_forward_26 ?_
      refine k_top (nI_add (8 * a9) b9) ?_
      refine kV (As := [.int (nI k), .int (nI (8 * a9 + b9))]) (rest := []) (Wc := (mW cI cZ md S)) (Wc1 := (mW cI cZ md S)) (Wd1 := (mW cI cZ md S)) (o := some (.int (o_Fw S k (8 * a9 + b9)))) ⟨hx, hb, hml, hown, hts⟩ (c_X2_forwards l D cI cZ cP md S k (8 * a9 + b9) (by omega) (by omega)) (cwV 2 hts gX2_forward_X2_forwards rfl rfl rfl (by decide +kernel) ⟨Nat.le_of_ble_eq_true rfl, Nat.le_of_ble_eq_true rfl⟩) hK hN hP hD hS (fun j => j) (fun _ _ h => h) (fun _ _ _ _ h => h) (mAdr _ _ _ _ _) (fun k q h => Or.inl ⟨k, h⟩) 0 2 rfl rfl (mO _ _ _ _) rfl hl.1 rfl (Nat.le_of_ble_eq_true rfl) ⟨Nat.zero_le _, Nat.zero_le _⟩ dX2_forward_27 (fun H locs hP hD hS => ?_)
      exact k_iret hx hb hr hlk hP hS hAe (by rw [q_Fw, if_pos hp, if_pos hr9, kxe, rxe]) rfl dX2_forward_30
    · refine k_top (y := -2) (by rw [q_Rf, if_pos hp, if_neg hr9]) ?_
      obtain ⟨k, hk, rfl⟩ := okP_nat hn hp
      have hk5 : k < 5 := by omega
      have kxe : kx (nI k) = k := kx_n (by omega)
      refine lv_istore (lv' := [(4, .int (-2)), (0, .ref (md 0)), (1, .int (nI k)), (2, .int t), (3, .int f)]) hx hb dX2_forward_7 hl (by decide) rfl (fun ls hl => ?_)
      refine lv_iload hx hb dX2_forward_9 (lv_at hl 0 rfl) ?_
      refine lv_if_eq (tgt := 19) hx hb dX2_forward_11 (by decide) (fun c_ => absurd c_ (by decide)) (fun _ => ?_)
      refine lv_iload hx hb dX2_forward_14 (lv_at hl 0 rfl) ?_
      refine lv_goto (tgt := 30) hx hb dX2_forward_16 (by decide) ?_
      exact k_iret hx hb hr hlk hP hS hAe (by rw [q_Fw, if_pos hp, if_neg hr9]) rfl dX2_forward_30
  · refine k_top (y := -1) (by rw [q_Rf, if_neg hp]) ?_
    refine lv_istore (lv' := [(4, .int (-1)), (0, .ref (md 0)), (1, .int x), (2, .int t), (3, .int f)]) hx hb dX2_forward_7 hl (by decide) rfl (fun ls hl => ?_)
    refine lv_iload hx hb dX2_forward_9 (lv_at hl 0 rfl) ?_
    refine lv_if_eq (tgt := 19) hx hb dX2_forward_11 (by decide) (fun c_ => absurd c_ (by decide)) (fun _ => ?_)
    refine lv_iload hx hb dX2_forward_14 (lv_at hl 0 rfl) ?_
    refine lv_goto (tgt := 30) hx hb dX2_forward_16 (by decide) ?_
    exact k_iret hx hb hr hlk hP hS hAe (by rw [q_Fw, if_neg hp]) rfl dX2_forward_30

set_option maxRecDepth 100000 in
set_option maxHeartbeats 4000000 in
theorem c_X2_reachableCount (l : Launch) (D : va_G) (cI cZ cP : ClassId) (md : Nat → Nat) (S : ST) (x : Int32) (hn : g_N S ≤ 5) : MM l yX2_reachableCount wsX2_reachableCount ({ frames := 2, cells := 0, slots := 0, locals := 43 }) D (kTy cI cZ cP) [.ref (md 0), .int x] (mW cI cZ md S) (some (.int (if okP (g_N S) x then kCnt (p_Fw S (kx x)) 16 else -1))) (mW cI cZ md S) := by
  refine MM.ofW (cc := cX2_reachableCount) (maxL := 4) (ret := (some .int)) (by decide) rfl (Nat.le_of_ble_eq_true rfl) ?_
  intro p e s m below meth c ls A hx hb hr hlk hml hts hown hK hN hP hD hS hAe hl
  have hown : s.vm.findClass RX2 = some m.cls := hown
  have hi2 : ∀ w ∈ wsX20, w ∈ wsX2_reachableCount := fun w h => List.mem_cons_of_mem _ (List.mem_append_right _ h)
  have hl : lv_has ls 4 [(0, .ref (md 0)), (1, .int x)] := hl
  refine lv_aload_n hx hb dX2_reachableCount_0 rfl (lv_at hl 0 rfl) ?_
  refine lv_iload_n hx hb dX2_reachableCount_1 rfl (lv_at hl 1 rfl) ?_
  refine kV (As := [.int x]) (rest := []) (Wc := (mW cI cZ md S)) (Wc1 := (mW cI cZ md S)) (Wd1 := (mW cI cZ md S)) (o := some (.int (if okP (g_N S) x then 1 else 0))) ⟨hx, hb, hml, hown, hts⟩ (c_X2_isPeer l D cI cZ cP md S x hn) (cwV 1 hts gX2_reachableCount_X2_isPeer rfl rfl rfl (by decide +kernel) ⟨Nat.le_of_ble_eq_true rfl, Nat.le_of_ble_eq_true rfl⟩) hK hN hP hD hS (fun j => j) (fun _ _ h => h) (fun _ _ _ _ h => h) (mAdr _ _ _ _ _) (fun k q h => Or.inl ⟨k, h⟩) 0 2 rfl rfl (mO _ _ _ _) rfl hl.1 rfl (Nat.le_of_ble_eq_true rfl) ⟨Nat.zero_le _, Nat.zero_le _⟩ dX2_reachableCount_2 (fun H locs hP hD hS => ?_)
  by_cases hp : okP (g_N S) x
  · refine k_top (if_pos hp) ?_
    obtain ⟨k, hk, rfl⟩ := okP_nat hn hp
    have hk5 : k < 5 := by omega
    have kxe : kx (nI k) = k := kx_n (by omega)
    refine lv_if_ne (tgt := 10) hx hb dX2_reachableCount_5 (by decide) (fun _ => ?_) (fun c_ => absurd c_ (by decide))
    refine lv_iconst (v := 0) hx hb dX2_reachableCount_10 (by decide) ?_
    refine lv_istore_n (lv' := [(2, .int 0), (0, .ref (md 0)), (1, .int (nI k))]) hx hb dX2_reachableCount_11 rfl hl (by decide) rfl (fun ls hl => ?_)
    refine lv_iconst (v := 0) hx hb dX2_reachableCount_12 (by decide) ?_
    refine lv_istore_n (lv' := [(3, .int 0), (2, .int 0), (0, .ref (md 0)), (1, .int (nI k))]) hx hb dX2_reachableCount_13 rfl hl (by decide) rfl (fun ls hl => ?_)
    have lp14 : ∀ (n9 i : Nat), i + n9 = 16 → ∀ (H : Heap) (locs : List Loc) (ls : Array Slot), va_P D vwCl (mW cI cZ md S) H → va_D A (mW cI cZ md S) → va_S A s.heap H locs → lv_has ls 4 [(0, .ref (md 0)), (1, .int (nI k)), (2, .int (kCnt (p_Fw S k) i)), (3, .int (nI i))] → W p l e (headSpec wsX2_reachableCount ({ frames := 2, cells := 0, slots := 0, locals := 43 })).room s m ([.ref (md 0), .int (nI k)] : List Value).toArray below meth c H locs 0 0 (MQ below (kPost D (mW cI cZ md S) (mW cI cZ md S) (some (.int (if okP (g_N S) (nI k) then kCnt (p_Fw S (kx (nI k))) 16 else -1)))) ([.ref (md 0), .int (nI k)] : List Value).toArray s 0 0 (kA (mW cI cZ md S))) (F0 m 14 ls []) := by
      intro n9
      induction n9 with
      | zero =>
        intro i hi9 H locs ls hP hD hS hl
        have hi8 : i = 16 := by omega
        subst hi8
        refine lv_iload_n hx hb dX2_reachableCount_14 rfl (lv_at hl 3 rfl) ?_
        refine lv_bipush (v := 16) hx hb dX2_reachableCount_15 (by decide) ?_
        refine lv_icmp_ge (tgt := 43) hx hb dX2_reachableCount_17 (by decide) (fun _ => ?_) (fun c_ => absurd (by decide) c_)
        refine lv_iload_n hx hb dX2_reachableCount_43 rfl (lv_at hl 2 rfl) ?_
        exact k_iret hx hb hr hlk hP hS hAe (by rw [if_pos hp, kxe]) rfl dX2_reachableCount_44
      | succ n9 ih =>
        intro i hi9 H locs ls hP hD hS hl
        have hlt : i < 16 := by omega
        refine lv_iload_n hx hb dX2_reachableCount_14 rfl (lv_at hl 3 rfl) ?_
        refine lv_bipush (v := 16) hx hb dX2_reachableCount_15 (by decide) ?_
        refine lv_icmp_ge (tgt := 43) hx hb dX2_reachableCount_17 (by decide) (fun c_ => absurd c_ (nI_ge (a := i) (b := 16) hlt (by decide))) (fun _ => ?_)
        refine lv_iload_n hx hb dX2_reachableCount_20 rfl (lv_at hl 2 rfl) ?_
        refine lv_aload_n hx hb dX2_reachableCount_21 rfl (lv_at hl 0 rfl) ?_
        refine lv_iload_n hx hb dX2_reachableCount_22 rfl (lv_at hl 1 rfl) ?_
        refine lv_iload_n hx hb dX2_reachableCount_23 rfl (lv_at hl 3 rfl) ?_
        refine kV (As := [.int (nI k), .int (nI i)]) (rest := [.int (kCnt (p_Fw S k) i)]) (Wc := (mW cI cZ md S)) (Wc1 := (mW cI cZ md S)) (Wd1 := (mW cI cZ md S)) (o := some (.int (o_Fw S k i))) ⟨hx, hb, hml, hown, hts⟩ (c_X2_forwards l D cI cZ cP md S k i (by omega) (by omega)) (cwV 2 hts gX2_reachableCount_X2_forwards rfl rfl rfl (by decide +kernel) ⟨Nat.le_of_ble_eq_true rfl, Nat.le_of_ble_eq_true rfl⟩) hK hN hP hD hS (fun j => j) (fun _ _ h => h) (fun _ _ _ _ h => h) (mAdr _ _ _ _ _) (fun k q h => Or.inl ⟨k, h⟩) 0 2 rfl rfl (mO _ _ _ _) rfl hl.1 rfl (Nat.le_of_ble_eq_true rfl) ⟨Nat.zero_le _, Nat.zero_le _⟩ dX2_reachableCount_24 (fun H locs hP hD hS => ?_)
        refine lv_if_lt (tgt := 34) hx hb dX2_reachableCount_27 (by decide) (fun c_27 => ?_) (fun c_27 => ?_)
        · refine lv_iconst (v := 0) hx hb dX2_reachableCount_34 (by decide) ?_
          refine lv_iadd hx hb dX2_reachableCount_35 ?_
          refine k_top (y := kCnt (p_Fw S k) (i + 1)) ((Int32.add_zero _).trans (kCnt_f (by simp [p_Fw, c_27]))) ?_
          refine lv_istore_n (lv' := [(2, .int (kCnt (p_Fw S k) (i + 1))), (0, .ref (md 0)), (1, .int (nI k)), (3, .int (nI i))]) hx hb dX2_reachableCount_36 rfl hl (by decide) rfl (fun ls hl => ?_)
          refine lv_iinc (v := nI (i + 1)) (lv' := [(3, .int (nI (i + 1))), (2, .int (kCnt (p_Fw S k) (i + 1))), (0, .ref (md 0)), (1, .int (nI k))]) hx hb dX2_reachableCount_37 hl (k := 3) rfl (nI_1 i) (by decide) rfl (fun ls hl => ?_)
          refine lv_goto (tgt := 14) hx hb dX2_reachableCount_40 (by decide) ?_
          exact ih (i + 1) (by omega) _ _ ls hP hD hS (lv_sub hl [2, 3, 1, 0] rfl)
        · refine lv_iconst (v := 1) hx hb dX2_reachableCount_30 (by decide) ?_
          refine lv_goto (tgt := 35) hx hb dX2_reachableCount_31 (by decide) ?_
          refine lv_iadd hx hb dX2_reachableCount_35 ?_
          refine k_top (y := kCnt (p_Fw S k) (i + 1)) (kCnt_t (by simp [p_Fw, Int32.not_lt.mp c_27])) ?_
          refine lv_istore_n (lv' := [(2, .int (kCnt (p_Fw S k) (i + 1))), (0, .ref (md 0)), (1, .int (nI k)), (3, .int (nI i))]) hx hb dX2_reachableCount_36 rfl hl (by decide) rfl (fun ls hl => ?_)
          refine lv_iinc (v := nI (i + 1)) (lv' := [(3, .int (nI (i + 1))), (2, .int (kCnt (p_Fw S k) (i + 1))), (0, .ref (md 0)), (1, .int (nI k))]) hx hb dX2_reachableCount_37 hl (k := 3) rfl (nI_1 i) (by decide) rfl (fun ls hl => ?_)
          refine lv_goto (tgt := 14) hx hb dX2_reachableCount_40 (by decide) ?_
          exact ih (i + 1) (by omega) _ _ ls hP hD hS (lv_sub hl [2, 3, 1, 0] rfl)
    exact lp14 16 0 (by omega) _ _ ls hP hD hS (lv_sub hl [2, 3, 1, 0] rfl)
  · refine k_top (if_neg hp) ?_
    refine lv_if_ne (tgt := 10) hx hb dX2_reachableCount_5 (by decide) (fun c_ => absurd (by decide) c_) (fun _ => ?_)
    refine lv_iconst (v := -1) hx hb dX2_reachableCount_8 (by decide) ?_
    exact k_iret hx hb hr hlk hP hS hAe (by rw [if_neg hp]) rfl dX2_reachableCount_9

set_option maxRecDepth 100000 in
set_option maxHeartbeats 4000000 in
theorem c_X2_known (l : Launch) (D : va_G) (cI cZ cP : ClassId) (md : Nat → Nat) (S : ST) (p9 : Nat) (hp9 : p9 < 5) : MM l yX2_known wsX2_known ({ frames := 0, cells := 0, slots := 0, locals := 0 }) D (kTy cI cZ cP) [.ref (md 0), .int (nI p9)] (mW cI cZ md S) (some (.int (kCnt (pz (g_Of S p9)) 16))) (mW cI cZ md S) := by
  refine MM.ofW (cc := cX2_known) (maxL := 4) (ret := (some .int)) (by decide) rfl (Nat.le_of_ble_eq_true rfl) ?_
  intro p e s m below meth c ls A hx hb hr hlk hml hts hown hK hN hP hD hS hAe hl
  have hown : s.vm.findClass RX2 = some m.cls := hown
  have hi2 : ∀ w ∈ wsX20, w ∈ wsX2_known := fun w h => List.mem_cons_of_mem _ (List.mem_append_right _ h)
  have hl : lv_has ls 4 [(0, .ref (md 0)), (1, .int (nI p9))] := hl
  refine lv_iconst (v := 0) hx hb dX2_known_0 (by decide) ?_
  refine lv_istore_n (lv' := [(2, .int 0), (0, .ref (md 0)), (1, .int (nI p9))]) hx hb dX2_known_1 rfl hl (by decide) rfl (fun ls hl => ?_)
  refine lv_iconst (v := 0) hx hb dX2_known_2 (by decide) ?_
  refine lv_istore_n (lv' := [(3, .int 0), (2, .int 0), (0, .ref (md 0)), (1, .int (nI p9))]) hx hb dX2_known_3 rfl hl (by decide) rfl (fun ls hl => ?_)
  have lp4 : ∀ (n9 i : Nat), i + n9 = 16 → ∀ (H : Heap) (locs : List Loc) (ls : Array Slot), va_P D vwCl (mW cI cZ md S) H → va_D A (mW cI cZ md S) → va_S A s.heap H locs → lv_has ls 4 [(0, .ref (md 0)), (1, .int (nI p9)), (2, .int (kCnt (pz (g_Of S p9)) i)), (3, .int (nI i))] → W p l e (headSpec wsX2_known ({ frames := 0, cells := 0, slots := 0, locals := 0 })).room s m ([.ref (md 0), .int (nI p9)] : List Value).toArray below meth c H locs 0 0 (MQ below (kPost D (mW cI cZ md S) (mW cI cZ md S) (some (.int (kCnt (pz (g_Of S p9)) 16)))) ([.ref (md 0), .int (nI p9)] : List Value).toArray s 0 0 (kA (mW cI cZ md S))) (F0 m 4 ls []) := by
    intro n9
    induction n9 with
    | zero =>
      intro i hi9 H locs ls hP hD hS hl
      have hi8 : i = 16 := by omega
      subst hi8
      refine lv_iload_n hx hb dX2_known_4 rfl (lv_at hl 3 rfl) ?_
      refine lv_bipush (v := 16) hx hb dX2_known_5 (by decide) ?_
      refine lv_icmp_ge (tgt := 38) hx hb dX2_known_7 (by decide) (fun _ => ?_) (fun c_ => absurd (by decide) c_)
      refine lv_iload_n hx hb dX2_known_38 rfl (lv_at hl 2 rfl) ?_
      exact k_iret hx hb hr hlk hP hS hAe rfl rfl dX2_known_39
    | succ n9 ih =>
      intro i hi9 H locs ls hP hD hS hl
      have hlt : i < 16 := by omega
      refine lv_iload_n hx hb dX2_known_4 rfl (lv_at hl 3 rfl) ?_
      refine lv_bipush (v := 16) hx hb dX2_known_5 (by decide) ?_
      refine lv_icmp_ge (tgt := 38) hx hb dX2_known_7 (by decide) (fun c_ => absurd c_ (nI_ge (a := i) (b := 16) hlt (by decide))) (fun _ => ?_)
      refine lv_iload_n hx hb dX2_known_10 rfl (lv_at hl 2 rfl) ?_
      refine lv_aload_n hx hb dX2_known_11 rfl (lv_at hl 0 rfl) ?_
      refine va_get (D := D) (ci := 2) (v := .ref (md 6)) (C := RX2) (T := TX2) (N := 16) hx hb hts hi2 hown hK hP 0 (mO _ _ _ _) rfl 9 (by decide) (hts (.fieldLink RX2 36 "GracefulRestartModel" "offered" "[I") (List.mem_of_getElem? (i := 1) rfl)) (fun _ h9 => h9) (mV_9 _ _) dX2_known_12 ?_
      refine lv_bipush (v := 16) hx hb dX2_known_15 (by decide) ?_
      refine lv_iload_n hx hb dX2_known_17 rfl (lv_at hl 1 rfl) ?_
      refine lv_imul hx hb dX2_known_18 ?_
      refine k_top (nx16 p9) ?_
      refine lv_iload_n hx hb dX2_known_19 rfl (lv_at hl 3 rfl) ?_
      refine lv_iadd hx hb dX2_known_20 ?_
      refine k_top (nI_add (16 * p9) i) ?_
      refine k_iald (k := 16 * p9 + i) hx hb hK hP 6 0 (mG_Of _ _ _ _) rfl rfl (by omega) (by decide) dX2_known_21 ?_
      refine k_top (y := (g_Of S) p9 i) (fl_at 16 _ (p := p9) (r := i) (by omega)) ?_
      refine lv_if_le (tgt := 29) hx hb dX2_known_22 (by decide) (fun c_22 => ?_) (fun c_22 => ?_)
      · refine lv_iconst (v := 0) hx hb dX2_known_29 (by decide) ?_
        refine lv_iadd hx hb dX2_known_30 ?_
        refine k_top (y := kCnt (pz (g_Of S p9)) (i + 1)) ((Int32.add_zero _).trans (kCnt_f (pz_f (Int32.not_lt.mpr c_22)))) ?_
        refine lv_istore_n (lv' := [(2, .int (kCnt (pz (g_Of S p9)) (i + 1))), (0, .ref (md 0)), (1, .int (nI p9)), (3, .int (nI i))]) hx hb dX2_known_31 rfl hl (by decide) rfl (fun ls hl => ?_)
        refine lv_iinc (v := nI (i + 1)) (lv' := [(3, .int (nI (i + 1))), (2, .int (kCnt (pz (g_Of S p9)) (i + 1))), (0, .ref (md 0)), (1, .int (nI p9))]) hx hb dX2_known_32 hl (k := 3) rfl (nI_1 i) (by decide) rfl (fun ls hl => ?_)
        refine lv_goto (tgt := 4) hx hb dX2_known_35 (by decide) ?_
        exact ih (i + 1) (by omega) _ _ ls hP hD hS (lv_sub hl [2, 3, 1, 0] rfl)
      · refine lv_iconst (v := 1) hx hb dX2_known_25 (by decide) ?_
        refine lv_goto (tgt := 30) hx hb dX2_known_26 (by decide) ?_
        refine lv_iadd hx hb dX2_known_30 ?_
        refine k_top (y := kCnt (pz (g_Of S p9)) (i + 1)) (kCnt_t (pz_t (Int32.not_le.mp c_22))) ?_
        refine lv_istore_n (lv' := [(2, .int (kCnt (pz (g_Of S p9)) (i + 1))), (0, .ref (md 0)), (1, .int (nI p9)), (3, .int (nI i))]) hx hb dX2_known_31 rfl hl (by decide) rfl (fun ls hl => ?_)
        refine lv_iinc (v := nI (i + 1)) (lv' := [(3, .int (nI (i + 1))), (2, .int (kCnt (pz (g_Of S p9)) (i + 1))), (0, .ref (md 0)), (1, .int (nI p9))]) hx hb dX2_known_32 hl (k := 3) rfl (nI_1 i) (by decide) rfl (fun ls hl => ?_)
        refine lv_goto (tgt := 4) hx hb dX2_known_35 (by decide) ?_
        exact ih (i + 1) (by omega) _ _ ls hP hD hS (lv_sub hl [2, 3, 1, 0] rfl)
  exact lp4 16 0 (by omega) _ _ ls hP hD hS (lv_sub hl [2, 3, 1, 0] rfl)
end
section
/-! steps of the loops -/
theorem b_len_up {S : ST} {r i : Nat} (h : g_St S i = 0) : b_len S r i = g_Of S i r := by simp [b_len, h]
theorem b_len_no {S : ST} {r i : Nat} (h : ¬ g_St S i = 0) : b_len S r i = 0 := by simp [b_len, h]
theorem b_keep {S : ST} {r i : Nat} (h : ¬ (0 < b_len S r i ∧ ((b_at S r i).1 = -6 ∨ b_len S r i < (b_at S r i).2))) : b_at S r i = b_at S r (i + 1) := by
  rw [show b_at S r (i + 1) = (if 0 < b_len S r i ∧ ((b_at S r i).1 = -6 ∨ b_len S r i < (b_at S r i).2) then (nI i, b_len S r i) else b_at S r i) from rfl, if_neg h]
theorem b_take {S : ST} {r i : Nat} (h : 0 < b_len S r i ∧ ((b_at S r i).1 = -6 ∨ b_len S r i < (b_at S r i).2)) : b_at S r (i + 1) = (nI i, b_len S r i) := by
  rw [show b_at S r (i + 1) = (if 0 < b_len S r i ∧ ((b_at S r i).1 = -6 ∨ b_len S r i < (b_at S r i).2) then (nI i, b_len S r i) else b_at S r i) from rfl, if_pos h]
theorem b_keep0 {S : ST} {r i : Nat} (h : ¬ 0 < b_len S r i) : (b_at S r i).1 = (b_at S r (i + 1)).1 := congrArg Prod.fst (b_keep (fun z => h z.1))
theorem b_keep1 {S : ST} {r i : Nat} (h6 : ¬ (b_at S r i).1 = -6) (h : ¬ b_len S r i < (b_at S r i).2) : (b_at S r i).1 = (b_at S r (i + 1)).1 := congrArg Prod.fst (b_keep (fun z => z.2.elim h6 h))
theorem b_take1 {S : ST} {r i : Nat} (h : 0 < b_len S r i ∧ ((b_at S r i).1 = -6 ∨ b_len S r i < (b_at S r i).2)) : nI i = (b_at S r (i + 1)).1 := by rw [b_take h]
theorem a_skip {S : ST} {r : Nat} {hop len : Int32} {i : Nat} (h : ¬ g_St S i = 0) : a_i S r hop len i = a_i S r hop len (i + 1) := by
  have h2 : ¬ g_St (a_i S r hop len i) i = 0 := by rw [a_i_St]; exact h
  rw [show a_i S r hop len (i + 1) = a_1 (a_i S r hop len i) r hop len i from rfl, a_1, if_neg h2]
theorem wt_t {S : ST} {i : Nat} (h : aw S i) : o_Wt S i ||| (1 <<< (nI i &&& 31)) = o_Wt S (i + 1) := by
  rw [show o_Wt S (i + 1) = @ite _ (aw S i) (Classical.propDecidable _) (o_Wt S i ||| (1 <<< (nI i &&& 31))) (o_Wt S i) from rfl, if_pos h]
theorem wt_f {S : ST} {i : Nat} (h : ¬ aw S i) : o_Wt S i = o_Wt S (i + 1) := by
  rw [show o_Wt S (i + 1) = @ite _ (aw S i) (Classical.propDecidable _) (o_Wt S i ||| (1 <<< (nI i &&& 31))) (o_Wt S i) from rfl, if_neg h]
theorem or_zero (x : Int32) : x ||| 0 = x := Int32.or_zero
theorem ER_t {S : ST} {i : Nat} (h : g_St S i = 0) : o_ERes (o_ER S i) i = o_ER S (i + 1) := by
  have h2 : g_St (o_ER S i) i = 0 := by rw [o_ER_St]; exact h
  rw [show o_ER S (i + 1) = (if g_St (o_ER S i) i = 0 then o_ERes (o_ER S i) i else o_ER S i) from rfl, if_pos h2]
theorem ER_f {S : ST} {i : Nat} (h : ¬ g_St S i = 0) : o_ER S i = o_ER S (i + 1) := by
  have h2 : ¬ g_St (o_ER S i) i = 0 := by rw [o_ER_St]; exact h
  rw [show o_ER S (i + 1) = (if g_St (o_ER S i) i = 0 then o_ERes (o_ER S i) i else o_ER S i) from rfl, if_neg h2]
theorem sel_hh (S : ST) (r n i : Nat) (hn : n ≤ 5) : (b_at S r n).1 = -6 ∨ ∃ j, j < 5 ∧ (b_at S r n).1 = nI j ∧ (b_at S r n).2 + 1 = g_Of (a_i (o_Ent S r (b_at S r n).1) r (b_at S r n).1 ((b_at S r n).2 + 1) i) j r + 1 := by
  rcases b_best S r n with e | ⟨j, e1, e2, e3, -, -⟩
  · exact Or.inl e
  · refine Or.inr ⟨j, by omega, e2, ?_⟩
    rw [e3, a_i_Of]
    rfl
theorem chk_no {S : ST} (h : g_Df S = 0) : S = o_Chk S := by rw [o_Chk, if_pos h]
theorem chk_wait {S : ST} (h : ¬ g_Df S = 0) (h1 : ¬ g_Dl S = 0) (h2 : ¬ o_Wt S (g_N S) = 0) : S = o_Chk S := by rw [o_Chk, if_neg h, if_neg (fun z => z.elim h1 h2)]
theorem chk_end {S : ST} (h : ¬ g_Df S = 0) (h1 : g_Dl S = 0 ∨ o_Wt S (g_N S) = 0) : o_End S = o_Chk S := by rw [o_Chk, if_neg h, if_pos h1]

set_option maxRecDepth 100000 in
set_option maxHeartbeats 4000000 in
theorem c_X2_bestPeer (l : Launch) (D : va_G) (cI cZ cP : ClassId) (md : Nat → Nat) (S : ST) (r9 : Nat) (hr9 : r9 < 16) (hn : g_N S ≤ 5) : MM l yX2_bestPeer wsX2_bestPeer ({ frames := 0, cells := 0, slots := 0, locals := 0 }) D (kTy cI cZ cP) [.ref (md 0), .int (nI r9)] (mW cI cZ md S) (some (.int (b_at S r9 (g_N S)).1)) (mW cI cZ md S) := by
  refine MM.ofW (cc := cX2_bestPeer) (maxL := 5) (ret := (some .int)) (by decide) rfl (Nat.le_of_ble_eq_true rfl) ?_
  intro p e s m below meth c ls A hx hb hr hlk hml hts hown hK hN hP hD hS hAe hl
  have hown : s.vm.findClass RX2 = some m.cls := hown
  have hi2 : ∀ w ∈ wsX20, w ∈ wsX2_bestPeer := fun w h => List.mem_cons_of_mem _ (List.mem_append_right _ h)
  have hl : lv_has ls 5 [(0, .ref (md 0)), (1, .int (nI r9))] := hl
  refine lv_bipush (v := -6) hx hb dX2_bestPeer_0 (by decide) ?_
  refine lv_istore_n (lv' := [(2, .int (-6)), (0, .ref (md 0)), (1, .int (nI r9))]) hx hb dX2_bestPeer_2 rfl hl (by decide) rfl (fun ls hl => ?_)
  refine lv_iconst (v := 0) hx hb dX2_bestPeer_3 (by decide) ?_
  refine lv_istore_n (lv' := [(3, .int 0), (2, .int (-6)), (0, .ref (md 0)), (1, .int (nI r9))]) hx hb dX2_bestPeer_4 rfl hl (by decide) rfl (fun ls hl => ?_)
  have lp5 : ∀ (n9 i : Nat), i + n9 = g_N S → ∀ (H : Heap) (locs : List Loc) (ls : Array Slot), va_P D vwCl (mW cI cZ md S) H → va_D A (mW cI cZ md S) → va_S A s.heap H locs → lv_has ls 5 [(0, .ref (md 0)), (1, .int (nI r9)), (2, .int ((b_at S r9 i).1)), (3, .int (nI i))] → W p l e (headSpec wsX2_bestPeer ({ frames := 0, cells := 0, slots := 0, locals := 0 })).room s m ([.ref (md 0), .int (nI r9)] : List Value).toArray below meth c H locs 0 0 (MQ below (kPost D (mW cI cZ md S) (mW cI cZ md S) (some (.int (b_at S r9 (g_N S)).1))) ([.ref (md 0), .int (nI r9)] : List Value).toArray s 0 0 (kA (mW cI cZ md S))) (F0 m 5 ls []) := by
    intro n9
    induction n9 with
    | zero =>
      intro i hi9 H locs ls hP hD hS hl
      have hi8 : i = g_N S := by omega
      subst hi8
      refine lv_iload_n hx hb dX2_bestPeer_5 rfl (lv_at hl 3 rfl) ?_
      refine lv_aload_n hx hb dX2_bestPeer_6 rfl (lv_at hl 0 rfl) ?_
      refine va_get (D := D) (ci := 2) (v := .int (nI (g_N S))) (C := RX2) (T := TX2) (N := 16) hx hb hts hi2 hown hK hP 0 (mO _ _ _ _) rfl 3 (by decide) (hts (.fieldLink RX2 55 "GracefulRestartModel" "peers" "I") (List.mem_of_getElem? (i := 1) rfl)) (fun _ h9 => h9) (mV_N _ _) dX2_bestPeer_7 ?_
      refine lv_icmp_ge (tgt := 91) hx hb dX2_bestPeer_10 (by decide) (fun _ => ?_) (fun c_ => absurd (Int32.le_refl _) c_)
      refine lv_iload_n hx hb dX2_bestPeer_91 rfl (lv_at hl 2 rfl) ?_
      exact k_iret hx hb hr hlk hP hS hAe rfl rfl dX2_bestPeer_92
    | succ n9 ih =>
      intro i hi9 H locs ls hP hD hS hl
      have hlt : i < g_N S := by omega
      refine lv_iload_n hx hb dX2_bestPeer_5 rfl (lv_at hl 3 rfl) ?_
      refine lv_aload_n hx hb dX2_bestPeer_6 rfl (lv_at hl 0 rfl) ?_
      refine va_get (D := D) (ci := 2) (v := .int (nI (g_N S))) (C := RX2) (T := TX2) (N := 16) hx hb hts hi2 hown hK hP 0 (mO _ _ _ _) rfl 3 (by decide) (hts (.fieldLink RX2 55 "GracefulRestartModel" "peers" "I") (List.mem_of_getElem? (i := 1) rfl)) (fun _ h9 => h9) (mV_N _ _) dX2_bestPeer_7 ?_
      refine lv_icmp_ge (tgt := 91) hx hb dX2_bestPeer_10 (by decide) (fun c_ => absurd c_ (nI_ge (a := i) (b := g_N S) hlt (by omega))) (fun _ => ?_)
      refine lv_aload_n hx hb dX2_bestPeer_13 rfl (lv_at hl 0 rfl) ?_
      refine va_get (D := D) (ci := 2) (v := .ref (md 2)) (C := RX2) (T := TX2) (N := 16) hx hb hts hi2 hown hK hP 0 (mO _ _ _ _) rfl 5 (by decide) (hts (.fieldLink RX2 23 "GracefulRestartModel" "stateOf" "[I") (List.mem_of_getElem? (i := 2) rfl)) (fun _ h9 => h9) (mV_5 _ _) dX2_bestPeer_14 ?_
      refine lv_iload_n hx hb dX2_bestPeer_17 rfl (lv_at hl 3 rfl) ?_
      refine k_iald (k := i) hx hb hK hP 2 0 (mG_St _ _ _ _) rfl rfl (by omega) (by decide) dX2_bestPeer_18 ?_
      refine lv_if_ne (tgt := 40) hx hb dX2_bestPeer_19 (by decide) (fun c_19 => ?_) (fun c_19 => ?_)
      · refine lv_iconst (v := 0) hx hb dX2_bestPeer_40 (by decide) ?_
        refine lv_istore (lv' := [(4, .int 0), (0, .ref (md 0)), (1, .int (nI r9)), (2, .int ((b_at S r9 i).1)), (3, .int (nI i))]) hx hb dX2_bestPeer_41 hl (by decide) rfl (fun ls hl => ?_)
        refine lv_iload hx hb dX2_bestPeer_43 (lv_at hl 0 rfl) ?_
        refine lv_if_eq (tgt := 83) hx hb dX2_bestPeer_45 (by decide) (fun _ => ?_) (fun c_ => absurd (by decide) c_)
        refine lv_iload_n hx hb dX2_bestPeer_83 rfl (lv_at hl 3 rfl) ?_
        refine lv_istore_n (lv' := [(2, .int ((b_at S r9 i).1)), (4, .int 0), (0, .ref (md 0)), (1, .int (nI r9)), (3, .int (nI i))]) hx hb dX2_bestPeer_84 rfl hl (by decide) rfl (fun ls hl => ?_)
        refine lv_iinc (v := nI (i + 1)) (lv' := [(3, .int (nI (i + 1))), (2, .int ((b_at S r9 i).1)), (4, .int 0), (0, .ref (md 0)), (1, .int (nI r9))]) hx hb dX2_bestPeer_85 hl (k := 4) rfl (nI_1 i) (by decide) rfl (fun ls hl => ?_)
        refine lv_goto (tgt := 5) hx hb dX2_bestPeer_88 (by decide) ?_
        rw [b_keep0 (by rw [b_len_no c_19]; decide)] at hl
        exact ih (i + 1) (by omega) _ _ ls hP hD hS (lv_sub hl [3, 4, 1, 0] rfl)
      · refine lv_aload_n hx hb dX2_bestPeer_22 rfl (lv_at hl 0 rfl) ?_
        refine va_get (D := D) (ci := 2) (v := .ref (md 6)) (C := RX2) (T := TX2) (N := 16) hx hb hts hi2 hown hK hP 0 (mO _ _ _ _) rfl 9 (by decide) (hts (.fieldLink RX2 36 "GracefulRestartModel" "offered" "[I") (List.mem_of_getElem? (i := 3) rfl)) (fun _ h9 => h9) (mV_9 _ _) dX2_bestPeer_23 ?_
        refine lv_bipush (v := 16) hx hb dX2_bestPeer_26 (by decide) ?_
        refine lv_iload_n hx hb dX2_bestPeer_28 rfl (lv_at hl 3 rfl) ?_
        refine lv_imul hx hb dX2_bestPeer_29 ?_
        refine k_top (nx16 i) ?_
        refine lv_iload_n hx hb dX2_bestPeer_30 rfl (lv_at hl 1 rfl) ?_
        refine lv_iadd hx hb dX2_bestPeer_31 ?_
        refine k_top (nI_add (16 * i) r9) ?_
        refine k_iald (k := 16 * i + r9) hx hb hK hP 6 0 (mG_Of _ _ _ _) rfl rfl (by omega) (by decide) dX2_bestPeer_32 ?_
        refine k_top (y := (g_Of S) i r9) (fl_at 16 _ (p := i) (r := r9) (by omega)) ?_
        refine lv_if_le (tgt := 40) hx hb dX2_bestPeer_33 (by decide) (fun c_33 => ?_) (fun c_33 => ?_)
        · refine lv_iconst (v := 0) hx hb dX2_bestPeer_40 (by decide) ?_
          refine lv_istore (lv' := [(4, .int 0), (0, .ref (md 0)), (1, .int (nI r9)), (2, .int ((b_at S r9 i).1)), (3, .int (nI i))]) hx hb dX2_bestPeer_41 hl (by decide) rfl (fun ls hl => ?_)
          refine lv_iload hx hb dX2_bestPeer_43 (lv_at hl 0 rfl) ?_
          refine lv_if_eq (tgt := 83) hx hb dX2_bestPeer_45 (by decide) (fun _ => ?_) (fun c_ => absurd (by decide) c_)
          refine lv_iload_n hx hb dX2_bestPeer_83 rfl (lv_at hl 3 rfl) ?_
          refine lv_istore_n (lv' := [(2, .int ((b_at S r9 i).1)), (4, .int 0), (0, .ref (md 0)), (1, .int (nI r9)), (3, .int (nI i))]) hx hb dX2_bestPeer_84 rfl hl (by decide) rfl (fun ls hl => ?_)
          refine lv_iinc (v := nI (i + 1)) (lv' := [(3, .int (nI (i + 1))), (2, .int ((b_at S r9 i).1)), (4, .int 0), (0, .ref (md 0)), (1, .int (nI r9))]) hx hb dX2_bestPeer_85 hl (k := 4) rfl (nI_1 i) (by decide) rfl (fun ls hl => ?_)
          refine lv_goto (tgt := 5) hx hb dX2_bestPeer_88 (by decide) ?_
          rw [b_keep0 (by rw [b_len_up c_19]; exact Int32.not_lt.mpr c_33)] at hl
          exact ih (i + 1) (by omega) _ _ ls hP hD hS (lv_sub hl [3, 4, 1, 0] rfl)
        · refine lv_iconst (v := 1) hx hb dX2_bestPeer_36 (by decide) ?_
          refine lv_goto (tgt := 41) hx hb dX2_bestPeer_37 (by decide) ?_
          refine lv_istore (lv' := [(4, .int 1), (0, .ref (md 0)), (1, .int (nI r9)), (2, .int ((b_at S r9 i).1)), (3, .int (nI i))]) hx hb dX2_bestPeer_41 hl (by decide) rfl (fun ls hl => ?_)
          refine lv_iload hx hb dX2_bestPeer_43 (lv_at hl 0 rfl) ?_
          refine lv_if_eq (tgt := 83) hx hb dX2_bestPeer_45 (by decide) (fun c_ => absurd c_ (by decide)) (fun _ => ?_)
          refine lv_iload_n hx hb dX2_bestPeer_48 rfl (lv_at hl 3 rfl) ?_
          refine lv_bipush (v := -6) hx hb dX2_bestPeer_49 (by decide) ?_
          refine lv_icmp_eq (tgt := 79) hx hb dX2_bestPeer_51 (by decide) (fun c_51 => ?_) (fun c_51 => ?_)
          · refine lv_iload_n hx hb dX2_bestPeer_79 rfl (lv_at hl 4 rfl) ?_
            refine lv_goto (tgt := 84) hx hb dX2_bestPeer_80 (by decide) ?_
            refine k_top (y := (b_at S r9 (i + 1)).1) (b_take1 ⟨by rw [b_len_up c_19]; exact Int32.not_le.mp c_33, Or.inl c_51⟩) ?_
            refine lv_istore_n (lv' := [(2, .int ((b_at S r9 (i + 1)).1)), (4, .int 1), (0, .ref (md 0)), (1, .int (nI r9)), (3, .int (nI i))]) hx hb dX2_bestPeer_84 rfl hl (by decide) rfl (fun ls hl => ?_)
            refine lv_iinc (v := nI (i + 1)) (lv' := [(3, .int (nI (i + 1))), (2, .int ((b_at S r9 (i + 1)).1)), (4, .int 1), (0, .ref (md 0)), (1, .int (nI r9))]) hx hb dX2_bestPeer_85 hl (k := 4) rfl (nI_1 i) (by decide) rfl (fun ls hl => ?_)
            refine lv_goto (tgt := 5) hx hb dX2_bestPeer_88 (by decide) ?_
            exact ih (i + 1) (by omega) _ _ ls hP hD hS (lv_sub hl [3, 4, 1, 0] rfl)
          · obtain ⟨j, hj, ej, eo, -, -⟩ := (b_best S r9 i).resolve_left c_51
            refine lv_aload_n hx hb dX2_bestPeer_54 rfl (lv_at hl 1 rfl) ?_
            refine va_get (D := D) (ci := 2) (v := .ref (md 6)) (C := RX2) (T := TX2) (N := 16) hx hb hts hi2 hown hK hP 0 (mO _ _ _ _) rfl 9 (by decide) (hts (.fieldLink RX2 36 "GracefulRestartModel" "offered" "[I") (List.mem_of_getElem? (i := 3) rfl)) (fun _ h9 => h9) (mV_9 _ _) dX2_bestPeer_55 ?_
            refine lv_bipush (v := 16) hx hb dX2_bestPeer_58 (by decide) ?_
            refine lv_iload_n hx hb dX2_bestPeer_60 rfl (lv_at hl 4 rfl) ?_
            refine lv_imul hx hb dX2_bestPeer_61 ?_
            refine k_top (nx16 i) ?_
            refine lv_iload_n hx hb dX2_bestPeer_62 rfl (lv_at hl 2 rfl) ?_
            refine lv_iadd hx hb dX2_bestPeer_63 ?_
            refine k_top (nI_add (16 * i) r9) ?_
            refine k_iald (k := 16 * i + r9) hx hb hK hP 6 0 (mG_Of _ _ _ _) rfl rfl (by omega) (by decide) dX2_bestPeer_64 ?_
            refine k_top (y := (g_Of S) i r9) (fl_at 16 _ (p := i) (r := r9) (by omega)) ?_
            refine lv_aload_n hx hb dX2_bestPeer_65 rfl (lv_at hl 1 rfl) ?_
            refine va_get (D := D) (ci := 2) (v := .ref (md 6)) (C := RX2) (T := TX2) (N := 16) hx hb hts hi2 hown hK hP 0 (mO _ _ _ _) rfl 9 (by decide) (hts (.fieldLink RX2 36 "GracefulRestartModel" "offered" "[I") (List.mem_of_getElem? (i := 3) rfl)) (fun _ h9 => h9) (mV_9 _ _) dX2_bestPeer_66 ?_
            refine lv_bipush (v := 16) hx hb dX2_bestPeer_69 (by decide) ?_
            refine lv_iload_n hx hb dX2_bestPeer_71 rfl (lv_at hl 3 rfl) ?_
            refine lv_imul hx hb dX2_bestPeer_72 ?_
            refine k_top (y := nI (16 * j)) (by rw [ej, nx16]) ?_
            refine lv_iload_n hx hb dX2_bestPeer_73 rfl (lv_at hl 2 rfl) ?_
            refine lv_iadd hx hb dX2_bestPeer_74 ?_
            refine k_top (nI_add (16 * j) r9) ?_
            refine k_iald (k := 16 * j + r9) hx hb hK hP 6 0 (mG_Of _ _ _ _) rfl rfl (by omega) (by decide) dX2_bestPeer_75 ?_
            refine k_top (y := (g_Of S) j r9) (fl_at 16 _ (p := j) (r := r9) (by omega)) ?_
            refine lv_icmp_ge (tgt := 83) hx hb dX2_bestPeer_76 (by decide) (fun c_76 => ?_) (fun c_76 => ?_)
            · refine lv_iload_n hx hb dX2_bestPeer_83 rfl (lv_at hl 3 rfl) ?_
              refine lv_istore_n (lv' := [(2, .int ((b_at S r9 i).1)), (4, .int 1), (0, .ref (md 0)), (1, .int (nI r9)), (3, .int (nI i))]) hx hb dX2_bestPeer_84 rfl hl (by decide) rfl (fun ls hl => ?_)
              refine lv_iinc (v := nI (i + 1)) (lv' := [(3, .int (nI (i + 1))), (2, .int ((b_at S r9 i).1)), (4, .int 1), (0, .ref (md 0)), (1, .int (nI r9))]) hx hb dX2_bestPeer_85 hl (k := 4) rfl (nI_1 i) (by decide) rfl (fun ls hl => ?_)
              refine lv_goto (tgt := 5) hx hb dX2_bestPeer_88 (by decide) ?_
              rw [b_keep1 c_51 (by rw [b_len_up c_19, eo]; exact Int32.not_lt.mpr c_76)] at hl
              exact ih (i + 1) (by omega) _ _ ls hP hD hS (lv_sub hl [3, 4, 1, 0] rfl)
            · refine lv_iload_n hx hb dX2_bestPeer_79 rfl (lv_at hl 4 rfl) ?_
              refine lv_goto (tgt := 84) hx hb dX2_bestPeer_80 (by decide) ?_
              refine k_top (y := (b_at S r9 (i + 1)).1) (b_take1 ⟨by rw [b_len_up c_19]; exact Int32.not_le.mp c_33, Or.inr (by rw [b_len_up c_19, eo]; exact Int32.not_le.mp c_76)⟩) ?_
              refine lv_istore_n (lv' := [(2, .int ((b_at S r9 (i + 1)).1)), (4, .int 1), (0, .ref (md 0)), (1, .int (nI r9)), (3, .int (nI i))]) hx hb dX2_bestPeer_84 rfl hl (by decide) rfl (fun ls hl => ?_)
              refine lv_iinc (v := nI (i + 1)) (lv' := [(3, .int (nI (i + 1))), (2, .int ((b_at S r9 (i + 1)).1)), (4, .int 1), (0, .ref (md 0)), (1, .int (nI r9))]) hx hb dX2_bestPeer_85 hl (k := 4) rfl (nI_1 i) (by decide) rfl (fun ls hl => ?_)
              refine lv_goto (tgt := 5) hx hb dX2_bestPeer_88 (by decide) ?_
              exact ih (i + 1) (by omega) _ _ ls hP hD hS (lv_sub hl [3, 4, 1, 0] rfl)
  exact lp5 (g_N S) 0 (by omega) _ _ ls hP hD hS (lv_sub hl [2, 3, 1, 0] rfl)

set_option maxRecDepth 100000 in
set_option maxHeartbeats 4000000 in
theorem c_X2_updates (l : Launch) (D : va_G) (cI cZ cP : ClassId) (md : Nat → Nat) (S : ST) (p9 r9 : Nat) (hop len : Int32) (hp9 : p9 < 5) (hr9 : r9 < 16) (hst : g_St S p9 = 0) (hh : hop = -6 ∨ ∃ j, j < 5 ∧ hop = nI j ∧ len = g_Of S j r9 + 1) : MM l yX2_updates wsX2_updates ({ frames := 0, cells := 0, slots := 0, locals := 0 }) D (kTy cI cZ cP) [.ref (md 0), .int (nI p9), .int (nI r9), .int hop] (mW cI cZ md S) (none) (mW cI cZ md (a_1 S r9 hop len p9)) := by
  refine MM.ofW (cc := cX2_updates) (maxL := 5) (ret := none) (by decide) rfl (Nat.le_of_ble_eq_true rfl) ?_
  intro p e s m below meth c ls A hx hb hr hlk hml hts hown hK hN hP hD hS hAe hl
  have hown : s.vm.findClass RX2 = some m.cls := hown
  have hi2 : ∀ w ∈ wsX20, w ∈ wsX2_updates := fun w h => List.mem_cons_of_mem _ (List.mem_append_right _ h)
  have hl : lv_has ls 5 [(0, .ref (md 0)), (1, .int (nI p9)), (2, .int (nI r9)), (3, .int hop)] := hl
  refine lv_bipush (v := 16) hx hb dX2_updates_0 (by decide) ?_
  refine lv_iload_n hx hb dX2_updates_2 rfl (lv_at hl 1 rfl) ?_
  refine lv_imul hx hb dX2_updates_3 ?_
  refine k_top (nx16 p9) ?_
  refine lv_iload_n hx hb dX2_updates_4 rfl (lv_at hl 2 rfl) ?_
  refine lv_iadd hx hb dX2_updates_5 ?_
  refine k_top (nI_add (16 * p9) r9) ?_
  refine lv_istore (lv' := [(4, .int (nI (16 * p9 + r9))), (0, .ref (md 0)), (1, .int (nI p9)), (2, .int (nI r9)), (3, .int hop)]) hx hb dX2_updates_6 hl (by decide) rfl (fun ls hl => ?_)
  refine lv_iload_n hx hb dX2_updates_8 rfl (lv_at hl 4 rfl) ?_
  refine lv_bipush (v := -6) hx hb dX2_updates_9 (by decide) ?_
  refine lv_icmp_eq (tgt := 50) hx hb dX2_updates_11 (by decide) (fun c_11 => ?_) (fun c_11 => ?_)
  · refine lv_aload_n hx hb dX2_updates_50 rfl (lv_at hl 1 rfl) ?_
    refine va_get (D := D) (ci := 2) (v := .ref (md 8)) (C := RX2) (T := TX2) (N := 16) hx hb hts hi2 hown hK hP 0 (mO _ _ _ _) rfl 11 (by decide) (hts (.fieldLink RX2 42 "GracefulRestartModel" "isStaleAt" "[Z") (List.mem_of_getElem? (i := 3) rfl)) (fun _ h9 => h9) (mV_11 _ _) dX2_updates_51 ?_
    refine lv_iload hx hb dX2_updates_54 (lv_at hl 0 rfl) ?_
    refine k_zald (k := 16 * p9 + r9) hx hb hK hP 8 1 (mG_Ss _ _ _ _) rfl rfl (by omega) (by decide) dX2_updates_56 ?_
    refine k_top (y := (g_Ss S) p9 r9) (fl_at 16 _ (p := p9) (r := r9) (by omega)) ?_
    refine lv_if_ne (tgt := 68) hx hb dX2_updates_57 (by decide) (fun c_57 => ?_) (fun c_57 => ?_)
    · exact k_vret hx hb hr hlk hP hS hAe (by rw [a_1, if_pos hst, if_pos (Or.inl c_11), if_neg c_57]) dX2_updates_68
    · refine lv_aload_n hx hb dX2_updates_60 rfl (lv_at hl 1 rfl) ?_
      refine va_get (D := D) (ci := 2) (v := .ref (md 7)) (C := RX2) (T := TX2) (N := 16) hx hb hts hi2 hown hK hP 0 (mO _ _ _ _) rfl 10 (by decide) (hts (.fieldLink RX2 39 "GracefulRestartModel" "learned" "[I") (List.mem_of_getElem? (i := 1) rfl)) (fun _ h9 => h9) (mV_10 _ _) dX2_updates_61 ?_
      refine lv_iload hx hb dX2_updates_64 (lv_at hl 0 rfl) ?_
      refine lv_iconst (v := 0) hx hb dX2_updates_66 (by decide) ?_
      refine k_iast (k := 16 * p9 + r9) hx hb hK hP hD hS 7 0 (mG_Le _ _ _ _) rfl rfl (by omega) (by decide) (W1 := (mW cI cZ md (s_Le S (va_up (g_Le S) p9 (upd ((g_Le S) p9) r9 0))))) (by rw [fl_up 16 _ (p := p9) (r := r9) (by omega) _]; exact mS_Le _ _ _ _ _) dX2_updates_67 (fun H locs hP hD hS => ?_)
      exact k_vret hx hb hr hlk hP hS hAe (by rw [a_1, if_pos hst, if_pos (Or.inl c_11), if_pos c_57]) dX2_updates_68
  · refine lv_iload_n hx hb dX2_updates_14 rfl (lv_at hl 4 rfl) ?_
    refine lv_iload_n hx hb dX2_updates_15 rfl (lv_at hl 2 rfl) ?_
    refine lv_icmp_eq (tgt := 50) hx hb dX2_updates_16 (by decide) (fun c_16 => ?_) (fun c_16 => ?_)
    · refine lv_aload_n hx hb dX2_updates_50 rfl (lv_at hl 1 rfl) ?_
      refine va_get (D := D) (ci := 2) (v := .ref (md 8)) (C := RX2) (T := TX2) (N := 16) hx hb hts hi2 hown hK hP 0 (mO _ _ _ _) rfl 11 (by decide) (hts (.fieldLink RX2 42 "GracefulRestartModel" "isStaleAt" "[Z") (List.mem_of_getElem? (i := 3) rfl)) (fun _ h9 => h9) (mV_11 _ _) dX2_updates_51 ?_
      refine lv_iload hx hb dX2_updates_54 (lv_at hl 0 rfl) ?_
      refine k_zald (k := 16 * p9 + r9) hx hb hK hP 8 1 (mG_Ss _ _ _ _) rfl rfl (by omega) (by decide) dX2_updates_56 ?_
      refine k_top (y := (g_Ss S) p9 r9) (fl_at 16 _ (p := p9) (r := r9) (by omega)) ?_
      refine lv_if_ne (tgt := 68) hx hb dX2_updates_57 (by decide) (fun c_57 => ?_) (fun c_57 => ?_)
      · exact k_vret hx hb hr hlk hP hS hAe (by rw [a_1, if_pos hst, if_pos (Or.inr c_16), if_neg c_57]) dX2_updates_68
      · refine lv_aload_n hx hb dX2_updates_60 rfl (lv_at hl 1 rfl) ?_
        refine va_get (D := D) (ci := 2) (v := .ref (md 7)) (C := RX2) (T := TX2) (N := 16) hx hb hts hi2 hown hK hP 0 (mO _ _ _ _) rfl 10 (by decide) (hts (.fieldLink RX2 39 "GracefulRestartModel" "learned" "[I") (List.mem_of_getElem? (i := 1) rfl)) (fun _ h9 => h9) (mV_10 _ _) dX2_updates_61 ?_
        refine lv_iload hx hb dX2_updates_64 (lv_at hl 0 rfl) ?_
        refine lv_iconst (v := 0) hx hb dX2_updates_66 (by decide) ?_
        refine k_iast (k := 16 * p9 + r9) hx hb hK hP hD hS 7 0 (mG_Le _ _ _ _) rfl rfl (by omega) (by decide) (W1 := (mW cI cZ md (s_Le S (va_up (g_Le S) p9 (upd ((g_Le S) p9) r9 0))))) (by rw [fl_up 16 _ (p := p9) (r := r9) (by omega) _]; exact mS_Le _ _ _ _ _) dX2_updates_67 (fun H locs hP hD hS => ?_)
        exact k_vret hx hb hr hlk hP hS hAe (by rw [a_1, if_pos hst, if_pos (Or.inr c_16), if_pos c_57]) dX2_updates_68
    · obtain ⟨j, hj, ej, el⟩ := hh.resolve_left c_11
      refine lv_aload_n hx hb dX2_updates_19 rfl (lv_at hl 1 rfl) ?_
      refine va_get (D := D) (ci := 2) (v := .ref (md 7)) (C := RX2) (T := TX2) (N := 16) hx hb hts hi2 hown hK hP 0 (mO _ _ _ _) rfl 10 (by decide) (hts (.fieldLink RX2 39 "GracefulRestartModel" "learned" "[I") (List.mem_of_getElem? (i := 1) rfl)) (fun _ h9 => h9) (mV_10 _ _) dX2_updates_20 ?_
      refine lv_iload hx hb dX2_updates_23 (lv_at hl 0 rfl) ?_
      refine lv_aload_n hx hb dX2_updates_25 rfl (lv_at hl 1 rfl) ?_
      refine va_get (D := D) (ci := 2) (v := .ref (md 6)) (C := RX2) (T := TX2) (N := 16) hx hb hts hi2 hown hK hP 0 (mO _ _ _ _) rfl 9 (by decide) (hts (.fieldLink RX2 36 "GracefulRestartModel" "offered" "[I") (List.mem_of_getElem? (i := 2) rfl)) (fun _ h9 => h9) (mV_9 _ _) dX2_updates_26 ?_
      refine lv_bipush (v := 16) hx hb dX2_updates_29 (by decide) ?_
      refine lv_iload_n hx hb dX2_updates_31 rfl (lv_at hl 4 rfl) ?_
      refine lv_imul hx hb dX2_updates_32 ?_
      refine k_top (y := nI (16 * j)) (by rw [ej, nx16]) ?_
      refine lv_iload_n hx hb dX2_updates_33 rfl (lv_at hl 3 rfl) ?_
      refine lv_iadd hx hb dX2_updates_34 ?_
      refine k_top (nI_add (16 * j) r9) ?_
      refine k_iald (k := 16 * j + r9) hx hb hK hP 6 0 (mG_Of _ _ _ _) rfl rfl (by omega) (by decide) dX2_updates_35 ?_
      refine k_top (y := (g_Of S) j r9) (fl_at 16 _ (p := j) (r := r9) (by omega)) ?_
      refine lv_iconst (v := 1) hx hb dX2_updates_36 (by decide) ?_
      refine lv_iadd hx hb dX2_updates_37 ?_
      refine k_top (y := len) el.symm ?_
      refine k_iast (k := 16 * p9 + r9) hx hb hK hP hD hS 7 0 (mG_Le _ _ _ _) rfl rfl (by omega) (by decide) (W1 := (mW cI cZ md (s_Le S (va_up (g_Le S) p9 (upd ((g_Le S) p9) r9 len))))) (by rw [fl_up 16 _ (p := p9) (r := r9) (by omega) _]; exact mS_Le _ _ _ _ _) dX2_updates_38 (fun H locs hP hD hS => ?_)
      refine lv_aload_n hx hb dX2_updates_39 rfl (lv_at hl 1 rfl) ?_
      refine va_get (D := D) (ci := 2) (v := .ref (md 8)) (C := RX2) (T := TX2) (N := 16) hx hb hts hi2 hown hK hP 0 (mO _ _ _ _) rfl 11 (by decide) (hts (.fieldLink RX2 42 "GracefulRestartModel" "isStaleAt" "[Z") (List.mem_of_getElem? (i := 3) rfl)) (fun _ h9 => h9) (mV_11 _ _) dX2_updates_40 ?_
      refine lv_iload hx hb dX2_updates_43 (lv_at hl 0 rfl) ?_
      refine lv_iconst (v := 0) hx hb dX2_updates_45 (by decide) ?_
      refine k_zast (k := 16 * p9 + r9) hx hb hK hP hD hS 8 1 (mG_Ss _ _ _ _) rfl rfl (by omega) (by decide) (by decide) (W1 := (mW cI cZ md (s_Ss (s_Le S (va_up (g_Le S) p9 (upd ((g_Le S) p9) r9 len))) (va_up (g_Ss S) p9 (upd ((g_Ss S) p9) r9 0))))) (by rw [show g_Ss (s_Le S (va_up (g_Le S) p9 (upd ((g_Le S) p9) r9 len))) = g_Ss S from (gs_Ss_Le _ _), fl_up 16 _ (p := p9) (r := r9) (by omega) _]; exact mS_Ss _ _ _ _ _) dX2_updates_46 (fun H locs hP hD hS => ?_)
      refine lv_goto (tgt := 68) hx hb dX2_updates_47 (by decide) ?_
      exact k_vret hx hb hr hlk hP hS hAe (by rw [a_1, if_pos hst, if_neg (fun z => z.elim c_11 c_16)]) dX2_updates_68

set_option maxRecDepth 100000 in
set_option maxHeartbeats 4000000 in
theorem c_X2_selects (l : Launch) (D : va_G) (cI cZ cP : ClassId) (md : Nat → Nat) (S : ST) (r9 : Nat) (hr9 : r9 < 16) (hn : g_N S ≤ 5) : MM l yX2_selects wsX2_selects ({ frames := 1, cells := 0, slots := 0, locals := 24 }) D (kTy cI cZ cP) [.ref (md 0), .int (nI r9)] (mW cI cZ md S) (none) (mW cI cZ md (o_Sel S r9)) := by
  refine MM.ofW (cc := cX2_selects) (maxL := 4) (ret := none) (by decide) rfl (Nat.le_of_ble_eq_true rfl) ?_
  intro p e s m below meth c ls A hx hb hr hlk hml hts hown hK hN hP hD hS hAe hl
  have hown : s.vm.findClass RX2 = some m.cls := hown
  have hi2 : ∀ w ∈ wsX20, w ∈ wsX2_selects := fun w h => List.mem_cons_of_mem _ (List.mem_append_right _ h)
  have hl : lv_has ls 4 [(0, .ref (md 0)), (1, .int (nI r9))] := hl
  refine lv_aload_n hx hb dX2_selects_0 rfl (lv_at hl 0 rfl) ?_
  refine lv_iload_n hx hb dX2_selects_1 rfl (lv_at hl 1 rfl) ?_
  refine kV (As := [.int (nI r9)]) (rest := []) (Wc := (mW cI cZ md S)) (Wc1 := (mW cI cZ md S)) (Wd1 := (mW cI cZ md S)) (o := some (.int ((b_at S r9 (g_N S)).1))) ⟨hx, hb, hml, hown, hts⟩ (c_X2_bestPeer l D cI cZ cP md S r9 (by omega) hn) (cwV 1 hts gX2_selects_X2_bestPeer rfl rfl rfl (by decide +kernel) ⟨Nat.le_of_ble_eq_true rfl, Nat.le_of_ble_eq_true rfl⟩) hK hN hP hD hS (fun j => j) (fun _ _ h => h) (fun _ _ _ _ h => h) (mAdr _ _ _ _ _) (fun k q h => Or.inl ⟨k, h⟩) 0 2 rfl rfl (mO _ _ _ _) rfl hl.1 rfl (Nat.le_of_ble_eq_true rfl) ⟨Nat.zero_le _, Nat.zero_le _⟩ dX2_selects_2 (fun H locs hP hD hS => ?_)
  refine lv_istore_n (lv' := [(2, .int ((b_at S r9 (g_N S)).1)), (0, .ref (md 0)), (1, .int (nI r9))]) hx hb dX2_selects_5 rfl hl (by decide) rfl (fun ls hl => ?_)
  refine lv_aload_n hx hb dX2_selects_6 rfl (lv_at hl 1 rfl) ?_
  refine va_get (D := D) (ci := 2) (v := .ref (md 9)) (C := RX2) (T := TX2) (N := 16) hx hb hts hi2 hown hK hP 0 (mO _ _ _ _) rfl 12 (by decide) (hts (.fieldLink RX2 45 "GracefulRestartModel" "hopOf" "[I") (List.mem_of_getElem? (i := 1) rfl)) (fun _ h9 => h9) (mV_12 _ _) dX2_selects_7 ?_
  refine lv_iload_n hx hb dX2_selects_10 rfl (lv_at hl 2 rfl) ?_
  refine lv_iload_n hx hb dX2_selects_11 rfl (lv_at hl 0 rfl) ?_
  refine k_iast (k := r9) hx hb hK hP hD hS 9 0 (mG_Ho _ _ _ _) rfl rfl (by omega) (by decide) (W1 := (mW cI cZ md (s_Ho S (upd (g_Ho S) r9 ((b_at S r9 (g_N S)).1))))) (mS_Ho _ _ _ _ _) dX2_selects_12 (fun H locs hP hD hS => ?_)
  refine lv_aload_n hx hb dX2_selects_13 rfl (lv_at hl 1 rfl) ?_
  refine va_get (D := D) (ci := 2) (v := .ref (md 10)) (C := RX2) (T := TX2) (N := 16) hx hb hts hi2 hown hK hP 0 (mO _ _ _ _) rfl 13 (by decide) (hts (.fieldLink RX2 48 "GracefulRestartModel" "isStaleHop" "[Z") (List.mem_of_getElem? (i := 2) rfl)) (fun _ h9 => h9) (mV_13 _ _) dX2_selects_14 ?_
  refine lv_iload_n hx hb dX2_selects_17 rfl (lv_at hl 2 rfl) ?_
  refine lv_iconst (v := 0) hx hb dX2_selects_18 (by decide) ?_
  refine k_zast (k := r9) hx hb hK hP hD hS 10 1 (mG_Hz _ _ _ _) rfl rfl (by omega) (by decide) (by decide) (W1 := (mW cI cZ md (o_Ent S r9 (b_at S r9 (g_N S)).1))) (by rw [show g_Hz (s_Ho S (upd (g_Ho S) r9 ((b_at S r9 (g_N S)).1))) = g_Hz S from (gs_Hz_Ho _ _)]; exact (mS_HzHs _ _ _ _ (upd (g_Hs S) r9 0) _).trans rfl) dX2_selects_19 (fun H locs hP hD hS => ?_)
  refine lv_iconst (v := 0) hx hb dX2_selects_20 (by decide) ?_
  refine lv_istore_n (lv' := [(3, .int 0), (2, .int ((b_at S r9 (g_N S)).1)), (0, .ref (md 0)), (1, .int (nI r9))]) hx hb dX2_selects_21 rfl hl (by decide) rfl (fun ls hl => ?_)
  have lp22 : ∀ (n9 i : Nat), i + n9 = g_N S → ∀ (H : Heap) (locs : List Loc) (ls : Array Slot), va_P D vwCl (mW cI cZ md (a_i (o_Ent S r9 (b_at S r9 (g_N S)).1) r9 (b_at S r9 (g_N S)).1 ((b_at S r9 (g_N S)).2 + 1) i)) H → va_D A (mW cI cZ md (a_i (o_Ent S r9 (b_at S r9 (g_N S)).1) r9 (b_at S r9 (g_N S)).1 ((b_at S r9 (g_N S)).2 + 1) i)) → va_S A s.heap H locs → lv_has ls 4 [(0, .ref (md 0)), (1, .int (nI r9)), (2, .int ((b_at S r9 (g_N S)).1)), (3, .int (nI i))] → W p l e (headSpec wsX2_selects ({ frames := 1, cells := 0, slots := 0, locals := 24 })).room s m ([.ref (md 0), .int (nI r9)] : List Value).toArray below meth c H locs 0 0 (MQ below (kPost D (mW cI cZ md S) (mW cI cZ md (o_Sel S r9)) (none)) ([.ref (md 0), .int (nI r9)] : List Value).toArray s 0 0 (kA (mW cI cZ md S))) (F0 m 22 ls []) := by
    intro n9
    induction n9 with
    | zero =>
      intro i hi9 H locs ls hP hD hS hl
      have hi8 : i = g_N S := by omega
      subst hi8
      refine lv_iload_n hx hb dX2_selects_22 rfl (lv_at hl 3 rfl) ?_
      refine lv_aload_n hx hb dX2_selects_23 rfl (lv_at hl 0 rfl) ?_
      refine va_get (D := D) (ci := 2) (v := .int (nI (g_N (a_i (o_Ent S r9 (b_at S r9 (g_N S)).1) r9 (b_at S r9 (g_N S)).1 ((b_at S r9 (g_N S)).2 + 1) (g_N S))))) (C := RX2) (T := TX2) (N := 16) hx hb hts hi2 hown hK hP 0 (mO _ _ _ _) rfl 3 (by decide) (hts (.fieldLink RX2 55 "GracefulRestartModel" "peers" "I") (List.mem_of_getElem? (i := 3) rfl)) (fun _ h9 => h9) (mV_N _ _) dX2_selects_24 ?_
      refine k_top (y := nI (g_N S)) (congrArg nI (a_i_N _ _ _ _ _)) ?_
      refine lv_icmp_ge (tgt := 52) hx hb dX2_selects_27 (by decide) (fun _ => ?_) (fun c_ => absurd (Int32.le_refl _) c_)
      exact k_vret hx hb hr hlk hP hS hAe (congrArg (mW cI cZ md) (Sel_e S r9)) dX2_selects_52
    | succ n9 ih =>
      intro i hi9 H locs ls hP hD hS hl
      have hlt : i < g_N S := by omega
      refine lv_iload_n hx hb dX2_selects_22 rfl (lv_at hl 3 rfl) ?_
      refine lv_aload_n hx hb dX2_selects_23 rfl (lv_at hl 0 rfl) ?_
      refine va_get (D := D) (ci := 2) (v := .int (nI (g_N (a_i (o_Ent S r9 (b_at S r9 (g_N S)).1) r9 (b_at S r9 (g_N S)).1 ((b_at S r9 (g_N S)).2 + 1) i)))) (C := RX2) (T := TX2) (N := 16) hx hb hts hi2 hown hK hP 0 (mO _ _ _ _) rfl 3 (by decide) (hts (.fieldLink RX2 55 "GracefulRestartModel" "peers" "I") (List.mem_of_getElem? (i := 3) rfl)) (fun _ h9 => h9) (mV_N _ _) dX2_selects_24 ?_
      refine k_top (y := nI (g_N S)) (congrArg nI (a_i_N _ _ _ _ _)) ?_
      refine lv_icmp_ge (tgt := 52) hx hb dX2_selects_27 (by decide) (fun c_ => absurd c_ (nI_ge (a := i) (b := g_N S) hlt (by omega))) (fun _ => ?_)
      refine lv_aload_n hx hb dX2_selects_30 rfl (lv_at hl 0 rfl) ?_
      refine va_get (D := D) (ci := 2) (v := .ref (md 2)) (C := RX2) (T := TX2) (N := 16) hx hb hts hi2 hown hK hP 0 (mO _ _ _ _) rfl 5 (by decide) (hts (.fieldLink RX2 23 "GracefulRestartModel" "stateOf" "[I") (List.mem_of_getElem? (i := 4) rfl)) (fun _ h9 => h9) (mV_5 _ _) dX2_selects_31 ?_
      refine lv_iload_n hx hb dX2_selects_34 rfl (lv_at hl 3 rfl) ?_
      refine k_iald (k := i) hx hb hK hP 2 0 (mG_St _ _ _ _) rfl rfl (by omega) (by decide) dX2_selects_35 ?_
      refine k_top (y := (g_St S) i) (congrFun (a_i_St _ _ _ _ _) i) ?_
      refine lv_if_ne (tgt := 46) hx hb dX2_selects_36 (by decide) (fun c_36 => ?_) (fun c_36 => ?_)
      · refine lv_iinc (v := nI (i + 1)) (lv' := [(3, .int (nI (i + 1))), (0, .ref (md 0)), (1, .int (nI r9)), (2, .int ((b_at S r9 (g_N S)).1))]) hx hb dX2_selects_46 hl (k := 3) rfl (nI_1 i) (by decide) rfl (fun ls hl => ?_)
        refine lv_goto (tgt := 22) hx hb dX2_selects_49 (by decide) ?_
        rw [a_skip (S := o_Ent S r9 (b_at S r9 (g_N S)).1) c_36] at hP hD
        exact ih (i + 1) (by omega) _ _ ls hP hD hS (lv_sub hl [1, 2, 3, 0] rfl)
      · refine lv_aload_n hx hb dX2_selects_39 rfl (lv_at hl 0 rfl) ?_
        refine lv_iload_n hx hb dX2_selects_40 rfl (lv_at hl 3 rfl) ?_
        refine lv_iload_n hx hb dX2_selects_41 rfl (lv_at hl 1 rfl) ?_
        refine lv_iload_n hx hb dX2_selects_42 rfl (lv_at hl 2 rfl) ?_
        refine kV (As := [.int (nI i), .int (nI r9), .int ((b_at S r9 (g_N S)).1)]) (rest := []) (Wc := (mW cI cZ md (a_i (o_Ent S r9 (b_at S r9 (g_N S)).1) r9 (b_at S r9 (g_N S)).1 ((b_at S r9 (g_N S)).2 + 1) i))) (Wc1 := (mW cI cZ md (a_1 (a_i (o_Ent S r9 (b_at S r9 (g_N S)).1) r9 (b_at S r9 (g_N S)).1 ((b_at S r9 (g_N S)).2 + 1) i) r9 (b_at S r9 (g_N S)).1 ((b_at S r9 (g_N S)).2 + 1) i))) (Wd1 := (mW cI cZ md (a_1 (a_i (o_Ent S r9 (b_at S r9 (g_N S)).1) r9 (b_at S r9 (g_N S)).1 ((b_at S r9 (g_N S)).2 + 1) i) r9 (b_at S r9 (g_N S)).1 ((b_at S r9 (g_N S)).2 + 1) i))) (o := none) ⟨hx, hb, hml, hown, hts⟩ (c_X2_updates l D cI cZ cP md (a_i (o_Ent S r9 (b_at S r9 (g_N S)).1) r9 (b_at S r9 (g_N S)).1 ((b_at S r9 (g_N S)).2 + 1) i) i r9 (b_at S r9 (g_N S)).1 ((b_at S r9 (g_N S)).2 + 1) (by omega) hr9 ((congrFun (a_i_St _ _ _ _ _) i).trans c_36) (sel_hh S r9 (g_N S) i hn)) (cwV 3 hts gX2_selects_X2_updates rfl rfl rfl (by decide +kernel) ⟨Nat.le_of_ble_eq_true rfl, Nat.le_of_ble_eq_true rfl⟩) hK hN hP hD hS (fun j => j) (fun _ _ h => h) (fun _ _ _ _ h => h) (mAdr _ _ _ _ _) (fun k q h => Or.inl ⟨k, h⟩) 0 2 rfl rfl (mO _ _ _ _) rfl hl.1 rfl (Nat.le_of_ble_eq_true rfl) ⟨Nat.zero_le _, Nat.zero_le _⟩ dX2_selects_43 (fun H locs hP hD hS => ?_)
        refine lv_iinc (v := nI (i + 1)) (lv' := [(3, .int (nI (i + 1))), (0, .ref (md 0)), (1, .int (nI r9)), (2, .int ((b_at S r9 (g_N S)).1))]) hx hb dX2_selects_46 hl (k := 3) rfl (nI_1 i) (by decide) rfl (fun ls hl => ?_)
        refine lv_goto (tgt := 22) hx hb dX2_selects_49 (by decide) ?_
        rw [ai_s] at hP hD
        exact ih (i + 1) (by omega) _ _ ls hP hD hS (lv_sub hl [1, 2, 3, 0] rfl)
  exact lp22 (g_N S) 0 (by omega) _ _ ls (by rw [ai_0]; exact hP) (by rw [ai_0]; exact hD) hS (lv_sub hl [2, 3, 1, 0] rfl)

set_option maxRecDepth 100000 in
set_option maxHeartbeats 4000000 in
theorem c_X2_selectsAll (l : Launch) (D : va_G) (cI cZ cP : ClassId) (md : Nat → Nat) (S : ST)  (hn : g_N S ≤ 5) : MM l yX2_selectsAll wsX2_selectsAll ({ frames := 2, cells := 0, slots := 0, locals := 47 }) D (kTy cI cZ cP) [.ref (md 0)] (mW cI cZ md S) (none) (mW cI cZ md (o_SA S 16)) := by
  refine MM.ofW (cc := cX2_selectsAll) (maxL := 2) (ret := none) (by decide) rfl (Nat.le_of_ble_eq_true rfl) ?_
  intro p e s m below meth c ls A hx hb hr hlk hml hts hown hK hN hP hD hS hAe hl
  have hown : s.vm.findClass RX2 = some m.cls := hown
  have hi2 : ∀ w ∈ wsX20, w ∈ wsX2_selectsAll := fun w h => List.mem_cons_of_mem _ (List.mem_append_right _ h)
  have hl : lv_has ls 2 [(0, .ref (md 0))] := hl
  refine lv_iconst (v := 0) hx hb dX2_selectsAll_0 (by decide) ?_
  refine lv_istore_n (lv' := [(1, .int 0), (0, .ref (md 0))]) hx hb dX2_selectsAll_1 rfl hl (by decide) rfl (fun ls hl => ?_)
  have lp2 : ∀ (n9 i : Nat), i + n9 = 16 → ∀ (H : Heap) (locs : List Loc) (ls : Array Slot), va_P D vwCl (mW cI cZ md (o_SA S i)) H → va_D A (mW cI cZ md (o_SA S i)) → va_S A s.heap H locs → lv_has ls 2 [(0, .ref (md 0)), (1, .int (nI i))] → W p l e (headSpec wsX2_selectsAll ({ frames := 2, cells := 0, slots := 0, locals := 47 })).room s m ([.ref (md 0)] : List Value).toArray below meth c H locs 0 0 (MQ below (kPost D (mW cI cZ md S) (mW cI cZ md (o_SA S 16)) (none)) ([.ref (md 0)] : List Value).toArray s 0 0 (kA (mW cI cZ md S))) (F0 m 2 ls []) := by
    intro n9
    induction n9 with
    | zero =>
      intro i hi9 H locs ls hP hD hS hl
      have hi8 : i = 16 := by omega
      subst hi8
      refine lv_iload_n hx hb dX2_selectsAll_2 rfl (lv_at hl 1 rfl) ?_
      refine lv_bipush (v := 16) hx hb dX2_selectsAll_3 (by decide) ?_
      refine lv_icmp_ge (tgt := 19) hx hb dX2_selectsAll_5 (by decide) (fun _ => ?_) (fun c_ => absurd (by decide) c_)
      exact k_vret hx hb hr hlk hP hS hAe rfl dX2_selectsAll_19
    | succ n9 ih =>
      intro i hi9 H locs ls hP hD hS hl
      have hlt : i < 16 := by omega
      refine lv_iload_n hx hb dX2_selectsAll_2 rfl (lv_at hl 1 rfl) ?_
      refine lv_bipush (v := 16) hx hb dX2_selectsAll_3 (by decide) ?_
      refine lv_icmp_ge (tgt := 19) hx hb dX2_selectsAll_5 (by decide) (fun c_ => absurd c_ (nI_ge (a := i) (b := 16) hlt (by decide))) (fun _ => ?_)
      refine lv_aload_n hx hb dX2_selectsAll_8 rfl (lv_at hl 0 rfl) ?_
      refine lv_iload_n hx hb dX2_selectsAll_9 rfl (lv_at hl 1 rfl) ?_
      refine kV (As := [.int (nI i)]) (rest := []) (Wc := (mW cI cZ md (o_SA S i))) (Wc1 := (mW cI cZ md (o_Sel (o_SA S i) i))) (Wd1 := (mW cI cZ md (o_Sel (o_SA S i) i))) (o := none) ⟨hx, hb, hml, hown, hts⟩ (c_X2_selects l D cI cZ cP md (o_SA S i) i (by omega) (by rw [o_SA_N]; exact hn)) (cwV 1 hts gX2_selectsAll_X2_selects rfl rfl rfl (by decide +kernel) ⟨Nat.le_of_ble_eq_true rfl, Nat.le_of_ble_eq_true rfl⟩) hK hN hP hD hS (fun j => j) (fun _ _ h => h) (fun _ _ _ _ h => h) (mAdr _ _ _ _ _) (fun k q h => Or.inl ⟨k, h⟩) 0 2 rfl rfl (mO _ _ _ _) rfl hl.1 rfl (Nat.le_of_ble_eq_true rfl) ⟨Nat.zero_le _, Nat.zero_le _⟩ dX2_selectsAll_10 (fun H locs hP hD hS => ?_)
      refine lv_iinc (v := nI (i + 1)) (lv' := [(1, .int (nI (i + 1))), (0, .ref (md 0))]) hx hb dX2_selectsAll_13 hl (k := 1) rfl (nI_1 i) (by decide) rfl (fun ls hl => ?_)
      refine lv_goto (tgt := 2) hx hb dX2_selectsAll_16 (by decide) ?_
      rw [SA_s] at hP hD
      exact ih (i + 1) (by omega) _ _ ls hP hD hS (lv_sub hl [1, 0] rfl)
  exact lp2 16 0 (by omega) _ _ ls (by rw [SA_0]; exact hP) (by rw [SA_0]; exact hD) hS (lv_sub hl [1, 0] rfl)

set_option maxRecDepth 100000 in
set_option maxHeartbeats 4000000 in
theorem c_X2_forgets0 (l : Launch) (D : va_G) (cI cZ cP : ClassId) (md : Nat → Nat) (S : ST) (p9 : Nat) (hp9 : p9 < 5) (hrow : rowOk (g_Le S p9) (g_Ss S p9)) : MM l yX2_forgets wsX2_forgets ({ frames := 0, cells := 0, slots := 0, locals := 0 }) D (kTy cI cZ cP) [.ref (md 0), .int (nI p9), .int 0] (mW cI cZ md S) (some (.int (kCnt (nz (g_Le S p9)) 16))) (mW cI cZ md (o_RmL S p9)) := by
  refine MM.ofW (cc := cX2_forgets) (maxL := 5) (ret := (some .int)) (by decide) rfl (Nat.le_of_ble_eq_true rfl) ?_
  intro p e s m below meth c ls A hx hb hr hlk hml hts hown hK hN hP hD hS hAe hl
  have hown : s.vm.findClass RX2 = some m.cls := hown
  have hi2 : ∀ w ∈ wsX20, w ∈ wsX2_forgets := fun w h => List.mem_cons_of_mem _ (List.mem_append_right _ h)
  have hl : lv_has ls 5 [(0, .ref (md 0)), (1, .int (nI p9)), (2, .int 0)] := hl
  refine lv_iconst (v := 0) hx hb dX2_forgets_0 (by decide) ?_
  refine lv_istore_n (lv' := [(3, .int 0), (0, .ref (md 0)), (1, .int (nI p9)), (2, .int 0)]) hx hb dX2_forgets_1 rfl hl (by decide) rfl (fun ls hl => ?_)
  refine lv_bipush (v := 16) hx hb dX2_forgets_2 (by decide) ?_
  refine lv_iload_n hx hb dX2_forgets_4 rfl (lv_at hl 2 rfl) ?_
  refine lv_imul hx hb dX2_forgets_5 ?_
  refine k_top (nx16 p9) ?_
  refine lv_istore (lv' := [(4, .int (nI (16 * p9))), (3, .int 0), (0, .ref (md 0)), (1, .int (nI p9)), (2, .int 0)]) hx hb dX2_forgets_6 hl (by decide) rfl (fun ls hl => ?_)
  have lp8 : ∀ (n9 i : Nat), i + n9 = 16 → ∀ (H : Heap) (locs : List Loc) (ls : Array Slot), va_P D vwCl (mW cI cZ md (s_Ss (s_Le S (va_up (g_Le S) p9 (kCut tt9 i (g_Le S p9)))) (va_up (g_Ss S) p9 (kCut tt9 i (g_Ss S p9))))) H → va_D A (mW cI cZ md (s_Ss (s_Le S (va_up (g_Le S) p9 (kCut tt9 i (g_Le S p9)))) (va_up (g_Ss S) p9 (kCut tt9 i (g_Ss S p9))))) → va_S A s.heap H locs → lv_has ls 5 [(0, .ref (md 0)), (1, .int (nI p9)), (2, .int 0), (3, .int (kCnt (nz (g_Le S p9)) i)), (4, .int (nI (16 * p9 + i)))] → W p l e (headSpec wsX2_forgets ({ frames := 0, cells := 0, slots := 0, locals := 0 })).room s m ([.ref (md 0), .int (nI p9), .int 0] : List Value).toArray below meth c H locs 0 0 (MQ below (kPost D (mW cI cZ md S) (mW cI cZ md (o_RmL S p9)) (some (.int (kCnt (nz (g_Le S p9)) 16)))) ([.ref (md 0), .int (nI p9), .int 0] : List Value).toArray s 0 0 (kA (mW cI cZ md S))) (F0 m 8 ls []) := by
    intro n9
    induction n9 with
    | zero =>
      intro i hi9 H locs ls hP hD hS hl
      have hi8 : i = 16 := by omega
      subst hi8
      refine lv_iload hx hb dX2_forgets_8 (lv_at hl 4 rfl) ?_
      refine lv_bipush (v := 16) hx hb dX2_forgets_10 (by decide) ?_
      refine lv_iload_n hx hb dX2_forgets_12 rfl (lv_at hl 1 rfl) ?_
      refine lv_iconst (v := 1) hx hb dX2_forgets_13 (by decide) ?_
      refine lv_iadd hx hb dX2_forgets_14 ?_
      refine k_top (nI_1 p9) ?_
      refine lv_imul hx hb dX2_forgets_15 ?_
      refine k_top (nx16 (p9 + 1)) ?_
      refine lv_icmp_ge (tgt := 68) hx hb dX2_forgets_16 (by decide) (fun _ => ?_) (fun c_ => absurd (nI_le (a := 16 * (p9 + 1)) (b := 16 * p9 + 16) (by omega) (by omega)) c_)
      refine lv_iload_n hx hb dX2_forgets_68 rfl (lv_at hl 3 rfl) ?_
      exact k_iret hx hb hr hlk hP hS hAe rfl (congrArg (mW cI cZ md) (RmL_e S p9)) dX2_forgets_69
    | succ n9 ih =>
      intro i hi9 H locs ls hP hD hS hl
      have hlt : i < 16 := by omega
      refine lv_iload hx hb dX2_forgets_8 (lv_at hl 4 rfl) ?_
      refine lv_bipush (v := 16) hx hb dX2_forgets_10 (by decide) ?_
      refine lv_iload_n hx hb dX2_forgets_12 rfl (lv_at hl 1 rfl) ?_
      refine lv_iconst (v := 1) hx hb dX2_forgets_13 (by decide) ?_
      refine lv_iadd hx hb dX2_forgets_14 ?_
      refine k_top (nI_1 p9) ?_
      refine lv_imul hx hb dX2_forgets_15 ?_
      refine k_top (nx16 (p9 + 1)) ?_
      refine lv_icmp_ge (tgt := 68) hx hb dX2_forgets_16 (by decide) (fun c_ => absurd c_ (nI_ge (a := 16 * p9 + i) (b := 16 * (p9 + 1)) (by omega) (by omega))) (fun _ => ?_)
      refine lv_aload_n hx hb dX2_forgets_19 rfl (lv_at hl 0 rfl) ?_
      refine va_get (D := D) (ci := 2) (v := .ref (md 7)) (C := RX2) (T := TX2) (N := 16) hx hb hts hi2 hown hK hP 0 (mO _ _ _ _) rfl 10 (by decide) (hts (.fieldLink RX2 39 "GracefulRestartModel" "learned" "[I") (List.mem_of_getElem? (i := 1) rfl)) (fun _ h9 => h9) (mV_10 _ _) dX2_forgets_20 ?_
      refine lv_iload hx hb dX2_forgets_23 (lv_at hl 4 rfl) ?_
      refine k_iald (k := 16 * p9 + i) hx hb hK hP 7 0 (mG_Le _ _ _ _) rfl rfl (by omega) (by decide) dX2_forgets_25 ?_
      refine k_top (y := (va_up (g_Le S) p9 (kCut tt9 i (g_Le S p9))) p9 i) ((fl_at 16 _ (p := p9) (r := i) (by omega)).trans (congrFun (congrFun ((gs_Le_Ss _ _).trans (gs_Le_Le _ _)) p9) i)) ?_
      refine k_top (y := g_Le S p9 i) (by rw [va_up_self, kCut_at]) ?_
      refine lv_if_le (tgt := 62) hx hb dX2_forgets_26 (by decide) (fun c_26 => ?_) (fun c_26 => ?_)
      · refine lv_iinc (v := nI (16 * p9 + i + 1)) (lv' := [(4, .int (nI (16 * p9 + i + 1))), (0, .ref (md 0)), (1, .int (nI p9)), (2, .int 0), (3, .int (kCnt (nz (g_Le S p9)) i))]) hx hb dX2_forgets_62 hl (k := 4) rfl (nI_1 (16 * p9 + i)) (by decide) rfl (fun ls hl => ?_)
        refine lv_goto (tgt := 8) hx hb dX2_forgets_65 (by decide) ?_
        have hz9 := hrow.zero (Int32.not_lt.mpr c_26)
        rw [kCut_z (P := tt9) (i := i) (g_Le S p9) hz9.1, kCut_z (P := tt9) (i := i) (g_Ss S p9) hz9.2] at hP hD
        rw [kCnt_f (nz_f hz9.1)] at hl
        exact ih (i + 1) (by omega) _ _ ls hP hD hS (lv_sub hl [1, 2, 3, 4, 0] rfl)
      · refine lv_iload_n hx hb dX2_forgets_29 rfl (lv_at hl 2 rfl) ?_
        refine lv_if_eq (tgt := 43) hx hb dX2_forgets_30 (by decide) (fun _ => ?_) (fun c_ => absurd (by decide) c_)
        refine lv_aload_n hx hb dX2_forgets_43 rfl (lv_at hl 0 rfl) ?_
        refine va_get (D := D) (ci := 2) (v := .ref (md 7)) (C := RX2) (T := TX2) (N := 16) hx hb hts hi2 hown hK hP 0 (mO _ _ _ _) rfl 10 (by decide) (hts (.fieldLink RX2 39 "GracefulRestartModel" "learned" "[I") (List.mem_of_getElem? (i := 1) rfl)) (fun _ h9 => h9) (mV_10 _ _) dX2_forgets_44 ?_
        refine lv_iload hx hb dX2_forgets_47 (lv_at hl 4 rfl) ?_
        refine lv_iconst (v := 0) hx hb dX2_forgets_49 (by decide) ?_
        refine k_iast (k := 16 * p9 + i) hx hb hK hP hD hS 7 0 (mG_Le _ _ _ _) rfl rfl (by omega) (by decide) (W1 := (mW cI cZ md (s_Ss (s_Le S (va_up (g_Le S) p9 (kCut tt9 (i + 1) (g_Le S p9)))) (va_up (g_Ss S) p9 (kCut tt9 i (g_Ss S p9)))))) (by rw [show g_Le (s_Ss (s_Le S (va_up (g_Le S) p9 (kCut tt9 i (g_Le S p9)))) (va_up (g_Ss S) p9 (kCut tt9 i (g_Ss S p9)))) = va_up (g_Le S) p9 (kCut tt9 i (g_Le S p9)) from ((gs_Le_Ss _ _).trans (gs_Le_Le _ _)), fl_row 16 _ (p := p9) (i := i) (by omega) (kCut_t (P := tt9) _ rfl), mS_Le, ss_Le_Ss, ss_Le_Le]) dX2_forgets_50 (fun H locs hP hD hS => ?_)
        refine lv_aload_n hx hb dX2_forgets_51 rfl (lv_at hl 0 rfl) ?_
        refine va_get (D := D) (ci := 2) (v := .ref (md 8)) (C := RX2) (T := TX2) (N := 16) hx hb hts hi2 hown hK hP 0 (mO _ _ _ _) rfl 11 (by decide) (hts (.fieldLink RX2 42 "GracefulRestartModel" "isStaleAt" "[Z") (List.mem_of_getElem? (i := 2) rfl)) (fun _ h9 => h9) (mV_11 _ _) dX2_forgets_52 ?_
        refine lv_iload hx hb dX2_forgets_55 (lv_at hl 4 rfl) ?_
        refine lv_iconst (v := 0) hx hb dX2_forgets_57 (by decide) ?_
        refine k_zast (k := 16 * p9 + i) hx hb hK hP hD hS 8 1 (mG_Ss _ _ _ _) rfl rfl (by omega) (by decide) (by decide) (W1 := (mW cI cZ md (s_Ss (s_Le S (va_up (g_Le S) p9 (kCut tt9 (i + 1) (g_Le S p9)))) (va_up (g_Ss S) p9 (kCut tt9 (i + 1) (g_Ss S p9)))))) (by rw [show g_Ss (s_Ss (s_Le S (va_up (g_Le S) p9 (kCut tt9 (i + 1) (g_Le S p9)))) (va_up (g_Ss S) p9 (kCut tt9 i (g_Ss S p9)))) = va_up (g_Ss S) p9 (kCut tt9 i (g_Ss S p9)) from (gs_Ss_Ss _ _), fl_row 16 _ (p := p9) (i := i) (by omega) (kCut_t (P := tt9) _ rfl), mS_Ss, ss_Ss_Ss]) dX2_forgets_58 (fun H locs hP hD hS => ?_)
        refine lv_iinc (v := kCnt (nz (g_Le S p9)) (i + 1)) (lv' := [(3, .int (kCnt (nz (g_Le S p9)) (i + 1))), (0, .ref (md 0)), (1, .int (nI p9)), (2, .int 0), (4, .int (nI (16 * p9 + i)))]) hx hb dX2_forgets_59 hl (k := 3) rfl (kCnt_t (nz_t (i32_pos (Int32.not_le.mp c_26)))) (by decide) rfl (fun ls hl => ?_)
        refine lv_iinc (v := nI (16 * p9 + i + 1)) (lv' := [(4, .int (nI (16 * p9 + i + 1))), (3, .int (kCnt (nz (g_Le S p9)) (i + 1))), (0, .ref (md 0)), (1, .int (nI p9)), (2, .int 0)]) hx hb dX2_forgets_62 hl (k := 4) rfl (nI_1 (16 * p9 + i)) (by decide) rfl (fun ls hl => ?_)
        refine lv_goto (tgt := 8) hx hb dX2_forgets_65 (by decide) ?_
        exact ih (i + 1) (by omega) _ _ ls hP hD hS (lv_sub hl [2, 3, 4, 1, 0] rfl)
  exact lp8 16 0 (by omega) _ _ ls (by rw [kCut_0, kCut_0, va_up_id, va_up_id, sg_Le, sg_Ss]; exact hP) (by rw [kCut_0, kCut_0, va_up_id, va_up_id, sg_Le, sg_Ss]; exact hD) hS (lv_sub hl [2, 3, 4, 1, 0] rfl)

set_option maxRecDepth 100000 in
set_option maxHeartbeats 4000000 in
theorem c_X2_forgets1 (l : Launch) (D : va_G) (cI cZ cP : ClassId) (md : Nat → Nat) (S : ST) (p9 : Nat) (hp9 : p9 < 5) (hrow : rowOk (g_Le S p9) (g_Ss S p9)) : MM l yX2_forgets wsX2_forgets ({ frames := 0, cells := 0, slots := 0, locals := 0 }) D (kTy cI cZ cP) [.ref (md 0), .int (nI p9), .int 1] (mW cI cZ md S) (some (.int (kCnt (nz (g_Ss S p9)) 16))) (mW cI cZ md (o_RmS S p9)) := by
  refine MM.ofW (cc := cX2_forgets) (maxL := 5) (ret := (some .int)) (by decide) rfl (Nat.le_of_ble_eq_true rfl) ?_
  intro p e s m below meth c ls A hx hb hr hlk hml hts hown hK hN hP hD hS hAe hl
  have hown : s.vm.findClass RX2 = some m.cls := hown
  have hi2 : ∀ w ∈ wsX20, w ∈ wsX2_forgets := fun w h => List.mem_cons_of_mem _ (List.mem_append_right _ h)
  have hl : lv_has ls 5 [(0, .ref (md 0)), (1, .int (nI p9)), (2, .int 1)] := hl
  refine lv_iconst (v := 0) hx hb dX2_forgets_0 (by decide) ?_
  refine lv_istore_n (lv' := [(3, .int 0), (0, .ref (md 0)), (1, .int (nI p9)), (2, .int 1)]) hx hb dX2_forgets_1 rfl hl (by decide) rfl (fun ls hl => ?_)
  refine lv_bipush (v := 16) hx hb dX2_forgets_2 (by decide) ?_
  refine lv_iload_n hx hb dX2_forgets_4 rfl (lv_at hl 2 rfl) ?_
  refine lv_imul hx hb dX2_forgets_5 ?_
  refine k_top (nx16 p9) ?_
  refine lv_istore (lv' := [(4, .int (nI (16 * p9))), (3, .int 0), (0, .ref (md 0)), (1, .int (nI p9)), (2, .int 1)]) hx hb dX2_forgets_6 hl (by decide) rfl (fun ls hl => ?_)
  have lp8 : ∀ (n9 i : Nat), i + n9 = 16 → ∀ (H : Heap) (locs : List Loc) (ls : Array Slot), va_P D vwCl (mW cI cZ md (s_Ss (s_Le S (va_up (g_Le S) p9 (kCut (nz (g_Ss S p9)) i (g_Le S p9)))) (va_up (g_Ss S) p9 (kCut (nz (g_Ss S p9)) i (g_Ss S p9))))) H → va_D A (mW cI cZ md (s_Ss (s_Le S (va_up (g_Le S) p9 (kCut (nz (g_Ss S p9)) i (g_Le S p9)))) (va_up (g_Ss S) p9 (kCut (nz (g_Ss S p9)) i (g_Ss S p9))))) → va_S A s.heap H locs → lv_has ls 5 [(0, .ref (md 0)), (1, .int (nI p9)), (2, .int 1), (3, .int (kCnt (nz (g_Ss S p9)) i)), (4, .int (nI (16 * p9 + i)))] → W p l e (headSpec wsX2_forgets ({ frames := 0, cells := 0, slots := 0, locals := 0 })).room s m ([.ref (md 0), .int (nI p9), .int 1] : List Value).toArray below meth c H locs 0 0 (MQ below (kPost D (mW cI cZ md S) (mW cI cZ md (o_RmS S p9)) (some (.int (kCnt (nz (g_Ss S p9)) 16)))) ([.ref (md 0), .int (nI p9), .int 1] : List Value).toArray s 0 0 (kA (mW cI cZ md S))) (F0 m 8 ls []) := by
    intro n9
    induction n9 with
    | zero =>
      intro i hi9 H locs ls hP hD hS hl
      have hi8 : i = 16 := by omega
      subst hi8
      refine lv_iload hx hb dX2_forgets_8 (lv_at hl 4 rfl) ?_
      refine lv_bipush (v := 16) hx hb dX2_forgets_10 (by decide) ?_
      refine lv_iload_n hx hb dX2_forgets_12 rfl (lv_at hl 1 rfl) ?_
      refine lv_iconst (v := 1) hx hb dX2_forgets_13 (by decide) ?_
      refine lv_iadd hx hb dX2_forgets_14 ?_
      refine k_top (nI_1 p9) ?_
      refine lv_imul hx hb dX2_forgets_15 ?_
      refine k_top (nx16 (p9 + 1)) ?_
      refine lv_icmp_ge (tgt := 68) hx hb dX2_forgets_16 (by decide) (fun _ => ?_) (fun c_ => absurd (nI_le (a := 16 * (p9 + 1)) (b := 16 * p9 + 16) (by omega) (by omega)) c_)
      refine lv_iload_n hx hb dX2_forgets_68 rfl (lv_at hl 3 rfl) ?_
      exact k_iret hx hb hr hlk hP hS hAe rfl (congrArg (mW cI cZ md) (RmS_e S p9)) dX2_forgets_69
    | succ n9 ih =>
      intro i hi9 H locs ls hP hD hS hl
      have hlt : i < 16 := by omega
      refine lv_iload hx hb dX2_forgets_8 (lv_at hl 4 rfl) ?_
      refine lv_bipush (v := 16) hx hb dX2_forgets_10 (by decide) ?_
      refine lv_iload_n hx hb dX2_forgets_12 rfl (lv_at hl 1 rfl) ?_
      refine lv_iconst (v := 1) hx hb dX2_forgets_13 (by decide) ?_
      refine lv_iadd hx hb dX2_forgets_14 ?_
      refine k_top (nI_1 p9) ?_
      refine lv_imul hx hb dX2_forgets_15 ?_
      refine k_top (nx16 (p9 + 1)) ?_
      refine lv_icmp_ge (tgt := 68) hx hb dX2_forgets_16 (by decide) (fun c_ => absurd c_ (nI_ge (a := 16 * p9 + i) (b := 16 * (p9 + 1)) (by omega) (by omega))) (fun _ => ?_)
      refine lv_aload_n hx hb dX2_forgets_19 rfl (lv_at hl 0 rfl) ?_
      refine va_get (D := D) (ci := 2) (v := .ref (md 7)) (C := RX2) (T := TX2) (N := 16) hx hb hts hi2 hown hK hP 0 (mO _ _ _ _) rfl 10 (by decide) (hts (.fieldLink RX2 39 "GracefulRestartModel" "learned" "[I") (List.mem_of_getElem? (i := 1) rfl)) (fun _ h9 => h9) (mV_10 _ _) dX2_forgets_20 ?_
      refine lv_iload hx hb dX2_forgets_23 (lv_at hl 4 rfl) ?_
      refine k_iald (k := 16 * p9 + i) hx hb hK hP 7 0 (mG_Le _ _ _ _) rfl rfl (by omega) (by decide) dX2_forgets_25 ?_
      refine k_top (y := (va_up (g_Le S) p9 (kCut (nz (g_Ss S p9)) i (g_Le S p9))) p9 i) ((fl_at 16 _ (p := p9) (r := i) (by omega)).trans (congrFun (congrFun ((gs_Le_Ss _ _).trans (gs_Le_Le _ _)) p9) i)) ?_
      refine k_top (y := g_Le S p9 i) (by rw [va_up_self, kCut_at]) ?_
      refine lv_if_le (tgt := 62) hx hb dX2_forgets_26 (by decide) (fun c_26 => ?_) (fun c_26 => ?_)
      · refine lv_iinc (v := nI (16 * p9 + i + 1)) (lv' := [(4, .int (nI (16 * p9 + i + 1))), (0, .ref (md 0)), (1, .int (nI p9)), (2, .int 1), (3, .int (kCnt (nz (g_Ss S p9)) i))]) hx hb dX2_forgets_62 hl (k := 4) rfl (nI_1 (16 * p9 + i)) (by decide) rfl (fun ls hl => ?_)
        refine lv_goto (tgt := 8) hx hb dX2_forgets_65 (by decide) ?_
        have hz9 := hrow.zero (Int32.not_lt.mpr c_26)
        rw [kCut_f (g_Le S p9) (nz_f hz9.2), kCut_f (g_Ss S p9) (nz_f hz9.2)] at hP hD
        rw [kCnt_f (nz_f hz9.2)] at hl
        exact ih (i + 1) (by omega) _ _ ls hP hD hS (lv_sub hl [1, 2, 3, 4, 0] rfl)
      · refine lv_iload_n hx hb dX2_forgets_29 rfl (lv_at hl 2 rfl) ?_
        refine lv_if_eq (tgt := 43) hx hb dX2_forgets_30 (by decide) (fun c_ => absurd c_ (by decide)) (fun _ => ?_)
        refine lv_aload_n hx hb dX2_forgets_33 rfl (lv_at hl 0 rfl) ?_
        refine va_get (D := D) (ci := 2) (v := .ref (md 8)) (C := RX2) (T := TX2) (N := 16) hx hb hts hi2 hown hK hP 0 (mO _ _ _ _) rfl 11 (by decide) (hts (.fieldLink RX2 42 "GracefulRestartModel" "isStaleAt" "[Z") (List.mem_of_getElem? (i := 2) rfl)) (fun _ h9 => h9) (mV_11 _ _) dX2_forgets_34 ?_
        refine lv_iload hx hb dX2_forgets_37 (lv_at hl 4 rfl) ?_
        refine k_zald (k := 16 * p9 + i) hx hb hK hP 8 1 (mG_Ss _ _ _ _) rfl rfl (by omega) (by decide) dX2_forgets_39 ?_
        refine k_top (y := (va_up (g_Ss S) p9 (kCut (nz (g_Ss S p9)) i (g_Ss S p9))) p9 i) ((fl_at 16 _ (p := p9) (r := i) (by omega)).trans (congrFun (congrFun (gs_Ss_Ss _ _) p9) i)) ?_
        refine k_top (y := g_Ss S p9 i) (by rw [va_up_self, kCut_at]) ?_
        refine lv_if_eq (tgt := 62) hx hb dX2_forgets_40 (by decide) (fun c_40 => ?_) (fun c_40 => ?_)
        · refine lv_iinc (v := nI (16 * p9 + i + 1)) (lv' := [(4, .int (nI (16 * p9 + i + 1))), (0, .ref (md 0)), (1, .int (nI p9)), (2, .int 1), (3, .int (kCnt (nz (g_Ss S p9)) i))]) hx hb dX2_forgets_62 hl (k := 4) rfl (nI_1 (16 * p9 + i)) (by decide) rfl (fun ls hl => ?_)
          refine lv_goto (tgt := 8) hx hb dX2_forgets_65 (by decide) ?_
          rw [kCut_f (g_Le S p9) (nz_f c_40), kCut_f (g_Ss S p9) (nz_f c_40)] at hP hD
          rw [kCnt_f (nz_f c_40)] at hl
          exact ih (i + 1) (by omega) _ _ ls hP hD hS (lv_sub hl [1, 2, 3, 4, 0] rfl)
        · refine lv_aload_n hx hb dX2_forgets_43 rfl (lv_at hl 0 rfl) ?_
          refine va_get (D := D) (ci := 2) (v := .ref (md 7)) (C := RX2) (T := TX2) (N := 16) hx hb hts hi2 hown hK hP 0 (mO _ _ _ _) rfl 10 (by decide) (hts (.fieldLink RX2 39 "GracefulRestartModel" "learned" "[I") (List.mem_of_getElem? (i := 1) rfl)) (fun _ h9 => h9) (mV_10 _ _) dX2_forgets_44 ?_
          refine lv_iload hx hb dX2_forgets_47 (lv_at hl 4 rfl) ?_
          refine lv_iconst (v := 0) hx hb dX2_forgets_49 (by decide) ?_
          refine k_iast (k := 16 * p9 + i) hx hb hK hP hD hS 7 0 (mG_Le _ _ _ _) rfl rfl (by omega) (by decide) (W1 := (mW cI cZ md (s_Ss (s_Le S (va_up (g_Le S) p9 (kCut (nz (g_Ss S p9)) (i + 1) (g_Le S p9)))) (va_up (g_Ss S) p9 (kCut (nz (g_Ss S p9)) i (g_Ss S p9)))))) (by rw [show g_Le (s_Ss (s_Le S (va_up (g_Le S) p9 (kCut (nz (g_Ss S p9)) i (g_Le S p9)))) (va_up (g_Ss S) p9 (kCut (nz (g_Ss S p9)) i (g_Ss S p9)))) = va_up (g_Le S) p9 (kCut (nz (g_Ss S p9)) i (g_Le S p9)) from ((gs_Le_Ss _ _).trans (gs_Le_Le _ _)), fl_row 16 _ (p := p9) (i := i) (by omega) (kCut_t (P := (nz (g_Ss S p9))) _ (nz_t c_40)), mS_Le, ss_Le_Ss, ss_Le_Le]) dX2_forgets_50 (fun H locs hP hD hS => ?_)
          refine lv_aload_n hx hb dX2_forgets_51 rfl (lv_at hl 0 rfl) ?_
          refine va_get (D := D) (ci := 2) (v := .ref (md 8)) (C := RX2) (T := TX2) (N := 16) hx hb hts hi2 hown hK hP 0 (mO _ _ _ _) rfl 11 (by decide) (hts (.fieldLink RX2 42 "GracefulRestartModel" "isStaleAt" "[Z") (List.mem_of_getElem? (i := 2) rfl)) (fun _ h9 => h9) (mV_11 _ _) dX2_forgets_52 ?_
          refine lv_iload hx hb dX2_forgets_55 (lv_at hl 4 rfl) ?_
          refine lv_iconst (v := 0) hx hb dX2_forgets_57 (by decide) ?_
          refine k_zast (k := 16 * p9 + i) hx hb hK hP hD hS 8 1 (mG_Ss _ _ _ _) rfl rfl (by omega) (by decide) (by decide) (W1 := (mW cI cZ md (s_Ss (s_Le S (va_up (g_Le S) p9 (kCut (nz (g_Ss S p9)) (i + 1) (g_Le S p9)))) (va_up (g_Ss S) p9 (kCut (nz (g_Ss S p9)) (i + 1) (g_Ss S p9)))))) (by rw [show g_Ss (s_Ss (s_Le S (va_up (g_Le S) p9 (kCut (nz (g_Ss S p9)) (i + 1) (g_Le S p9)))) (va_up (g_Ss S) p9 (kCut (nz (g_Ss S p9)) i (g_Ss S p9)))) = va_up (g_Ss S) p9 (kCut (nz (g_Ss S p9)) i (g_Ss S p9)) from (gs_Ss_Ss _ _), fl_row 16 _ (p := p9) (i := i) (by omega) (kCut_t (P := (nz (g_Ss S p9))) _ (nz_t c_40)), mS_Ss, ss_Ss_Ss]) dX2_forgets_58 (fun H locs hP hD hS => ?_)
          refine lv_iinc (v := kCnt (nz (g_Ss S p9)) (i + 1)) (lv' := [(3, .int (kCnt (nz (g_Ss S p9)) (i + 1))), (0, .ref (md 0)), (1, .int (nI p9)), (2, .int 1), (4, .int (nI (16 * p9 + i)))]) hx hb dX2_forgets_59 hl (k := 3) rfl (kCnt_t (nz_t c_40)) (by decide) rfl (fun ls hl => ?_)
          refine lv_iinc (v := nI (16 * p9 + i + 1)) (lv' := [(4, .int (nI (16 * p9 + i + 1))), (3, .int (kCnt (nz (g_Ss S p9)) (i + 1))), (0, .ref (md 0)), (1, .int (nI p9)), (2, .int 1)]) hx hb dX2_forgets_62 hl (k := 4) rfl (nI_1 (16 * p9 + i)) (by decide) rfl (fun ls hl => ?_)
          refine lv_goto (tgt := 8) hx hb dX2_forgets_65 (by decide) ?_
          exact ih (i + 1) (by omega) _ _ ls hP hD hS (lv_sub hl [2, 3, 4, 1, 0] rfl)
  exact lp8 16 0 (by omega) _ _ ls (by rw [kCut_0, kCut_0, va_up_id, va_up_id, sg_Le, sg_Ss]; exact hP) (by rw [kCut_0, kCut_0, va_up_id, va_up_id, sg_Le, sg_Ss]; exact hD) hS (lv_sub hl [2, 3, 4, 1, 0] rfl)

set_option maxRecDepth 100000 in
set_option maxHeartbeats 4000000 in
theorem c_X2_waiting (l : Launch) (D : va_G) (cI cZ cP : ClassId) (md : Nat → Nat) (S : ST)  (hn : g_N S ≤ 5) : MM l yX2_waiting wsX2_waiting ({ frames := 0, cells := 0, slots := 0, locals := 0 }) D (kTy cI cZ cP) [.ref (md 0)] (mW cI cZ md S) (some (.int (o_Wt S (g_N S)))) (mW cI cZ md S) := by
  refine MM.ofW (cc := cX2_waiting) (maxL := 4) (ret := (some .int)) (by decide) rfl (Nat.le_of_ble_eq_true rfl) ?_
  intro p e s m below meth c ls A hx hb hr hlk hml hts hown hK hN hP hD hS hAe hl
  have hown : s.vm.findClass RX2 = some m.cls := hown
  have hi2 : ∀ w ∈ wsX20, w ∈ wsX2_waiting := fun w h => List.mem_cons_of_mem _ (List.mem_append_right _ h)
  have hl : lv_has ls 4 [(0, .ref (md 0))] := hl
  refine lv_iconst (v := 0) hx hb dX2_waiting_0 (by decide) ?_
  refine lv_istore_n (lv' := [(1, .int 0), (0, .ref (md 0))]) hx hb dX2_waiting_1 rfl hl (by decide) rfl (fun ls hl => ?_)
  refine lv_iconst (v := 0) hx hb dX2_waiting_2 (by decide) ?_
  refine lv_istore_n (lv' := [(2, .int 0), (1, .int 0), (0, .ref (md 0))]) hx hb dX2_waiting_3 rfl hl (by decide) rfl (fun ls hl => ?_)
  have lp4 : ∀ (n9 i : Nat), i + n9 = g_N S → ∀ (H : Heap) (locs : List Loc) (ls : Array Slot), va_P D vwCl (mW cI cZ md S) H → va_D A (mW cI cZ md S) → va_S A s.heap H locs → lv_has ls 4 [(0, .ref (md 0)), (1, .int (o_Wt S i)), (2, .int (nI i))] → W p l e (headSpec wsX2_waiting ({ frames := 0, cells := 0, slots := 0, locals := 0 })).room s m ([.ref (md 0)] : List Value).toArray below meth c H locs 0 0 (MQ below (kPost D (mW cI cZ md S) (mW cI cZ md S) (some (.int (o_Wt S (g_N S))))) ([.ref (md 0)] : List Value).toArray s 0 0 (kA (mW cI cZ md S))) (F0 m 4 ls []) := by
    intro n9
    induction n9 with
    | zero =>
      intro i hi9 H locs ls hP hD hS hl
      have hi8 : i = g_N S := by omega
      subst hi8
      refine lv_iload_n hx hb dX2_waiting_4 rfl (lv_at hl 2 rfl) ?_
      refine lv_aload_n hx hb dX2_waiting_5 rfl (lv_at hl 0 rfl) ?_
      refine va_get (D := D) (ci := 2) (v := .int (nI (g_N S))) (C := RX2) (T := TX2) (N := 16) hx hb hts hi2 hown hK hP 0 (mO _ _ _ _) rfl 3 (by decide) (hts (.fieldLink RX2 55 "GracefulRestartModel" "peers" "I") (List.mem_of_getElem? (i := 1) rfl)) (fun _ h9 => h9) (mV_N _ _) dX2_waiting_6 ?_
      refine lv_icmp_ge (tgt := 81) hx hb dX2_waiting_9 (by decide) (fun _ => ?_) (fun c_ => absurd (Int32.le_refl _) c_)
      refine lv_iload_n hx hb dX2_waiting_81 rfl (lv_at hl 1 rfl) ?_
      exact k_iret hx hb hr hlk hP hS hAe rfl rfl dX2_waiting_82
    | succ n9 ih =>
      intro i hi9 H locs ls hP hD hS hl
      have hlt : i < g_N S := by omega
      refine lv_iload_n hx hb dX2_waiting_4 rfl (lv_at hl 2 rfl) ?_
      refine lv_aload_n hx hb dX2_waiting_5 rfl (lv_at hl 0 rfl) ?_
      refine va_get (D := D) (ci := 2) (v := .int (nI (g_N S))) (C := RX2) (T := TX2) (N := 16) hx hb hts hi2 hown hK hP 0 (mO _ _ _ _) rfl 3 (by decide) (hts (.fieldLink RX2 55 "GracefulRestartModel" "peers" "I") (List.mem_of_getElem? (i := 1) rfl)) (fun _ h9 => h9) (mV_N _ _) dX2_waiting_6 ?_
      refine lv_icmp_ge (tgt := 81) hx hb dX2_waiting_9 (by decide) (fun c_ => absurd c_ (nI_ge (a := i) (b := g_N S) hlt (by omega))) (fun _ => ?_)
      refine lv_aload_n hx hb dX2_waiting_12 rfl (lv_at hl 0 rfl) ?_
      refine va_get (D := D) (ci := 2) (v := .ref (md 1)) (C := RX2) (T := TX2) (N := 16) hx hb hts hi2 hown hK hP 0 (mO _ _ _ _) rfl 4 (by decide) (hts (.fieldLink RX2 19 "GracefulRestartModel" "isGraceful" "[Z") (List.mem_of_getElem? (i := 2) rfl)) (fun _ h9 => h9) (mV_4 _ _) dX2_waiting_13 ?_
      refine lv_iload_n hx hb dX2_waiting_16 rfl (lv_at hl 2 rfl) ?_
      refine k_zald (k := i) hx hb hK hP 1 1 (mG_Gr _ _ _ _) rfl rfl (by omega) (by decide) dX2_waiting_17 ?_
      refine lv_if_eq (tgt := 59) hx hb dX2_waiting_18 (by decide) (fun c_18 => ?_) (fun c_18 => ?_)
      · refine lv_iconst (v := 0) hx hb dX2_waiting_59 (by decide) ?_
        refine lv_istore_n (lv' := [(3, .int 0), (0, .ref (md 0)), (1, .int (o_Wt S i)), (2, .int (nI i))]) hx hb dX2_waiting_60 rfl hl (by decide) rfl (fun ls hl => ?_)
        refine lv_iload_n hx hb dX2_waiting_61 rfl (lv_at hl 2 rfl) ?_
        refine lv_iload_n hx hb dX2_waiting_62 rfl (lv_at hl 0 rfl) ?_
        refine lv_if_eq (tgt := 72) hx hb dX2_waiting_63 (by decide) (fun _ => ?_) (fun c_ => absurd (by decide) c_)
        refine lv_iconst (v := 0) hx hb dX2_waiting_72 (by decide) ?_
        refine lv_ior hx hb dX2_waiting_73 ?_
        refine k_top (y := o_Wt S (i + 1)) ((or_zero _).trans (wt_f (fun z => z.1 c_18))) ?_
        refine lv_istore_n (lv' := [(1, .int (o_Wt S (i + 1))), (3, .int 0), (0, .ref (md 0)), (2, .int (nI i))]) hx hb dX2_waiting_74 rfl hl (by decide) rfl (fun ls hl => ?_)
        refine lv_iinc (v := nI (i + 1)) (lv' := [(2, .int (nI (i + 1))), (1, .int (o_Wt S (i + 1))), (3, .int 0), (0, .ref (md 0))]) hx hb dX2_waiting_75 hl (k := 3) rfl (nI_1 i) (by decide) rfl (fun ls hl => ?_)
        refine lv_goto (tgt := 4) hx hb dX2_waiting_78 (by decide) ?_
        exact ih (i + 1) (by omega) _ _ ls hP hD hS (lv_sub hl [3, 1, 0] rfl)
      · refine lv_aload_n hx hb dX2_waiting_21 rfl (lv_at hl 0 rfl) ?_
        refine va_get (D := D) (ci := 2) (v := .ref (md 2)) (C := RX2) (T := TX2) (N := 16) hx hb hts hi2 hown hK hP 0 (mO _ _ _ _) rfl 5 (by decide) (hts (.fieldLink RX2 23 "GracefulRestartModel" "stateOf" "[I") (List.mem_of_getElem? (i := 3) rfl)) (fun _ h9 => h9) (mV_5 _ _) dX2_waiting_22 ?_
        refine lv_iload_n hx hb dX2_waiting_25 rfl (lv_at hl 2 rfl) ?_
        refine k_iald (k := i) hx hb hK hP 2 0 (mG_St _ _ _ _) rfl rfl (by omega) (by decide) dX2_waiting_26 ?_
        refine lv_iconst (v := 2) hx hb dX2_waiting_27 (by decide) ?_
        refine lv_icmp_eq (tgt := 59) hx hb dX2_waiting_28 (by decide) (fun c_28 => ?_) (fun c_28 => ?_)
        · refine lv_iconst (v := 0) hx hb dX2_waiting_59 (by decide) ?_
          refine lv_istore_n (lv' := [(3, .int 0), (0, .ref (md 0)), (1, .int (o_Wt S i)), (2, .int (nI i))]) hx hb dX2_waiting_60 rfl hl (by decide) rfl (fun ls hl => ?_)
          refine lv_iload_n hx hb dX2_waiting_61 rfl (lv_at hl 2 rfl) ?_
          refine lv_iload_n hx hb dX2_waiting_62 rfl (lv_at hl 0 rfl) ?_
          refine lv_if_eq (tgt := 72) hx hb dX2_waiting_63 (by decide) (fun _ => ?_) (fun c_ => absurd (by decide) c_)
          refine lv_iconst (v := 0) hx hb dX2_waiting_72 (by decide) ?_
          refine lv_ior hx hb dX2_waiting_73 ?_
          refine k_top (y := o_Wt S (i + 1)) ((or_zero _).trans (wt_f (fun z => z.2.1 c_28))) ?_
          refine lv_istore_n (lv' := [(1, .int (o_Wt S (i + 1))), (3, .int 0), (0, .ref (md 0)), (2, .int (nI i))]) hx hb dX2_waiting_74 rfl hl (by decide) rfl (fun ls hl => ?_)
          refine lv_iinc (v := nI (i + 1)) (lv' := [(2, .int (nI (i + 1))), (1, .int (o_Wt S (i + 1))), (3, .int 0), (0, .ref (md 0))]) hx hb dX2_waiting_75 hl (k := 3) rfl (nI_1 i) (by decide) rfl (fun ls hl => ?_)
          refine lv_goto (tgt := 4) hx hb dX2_waiting_78 (by decide) ?_
          exact ih (i + 1) (by omega) _ _ ls hP hD hS (lv_sub hl [3, 1, 0] rfl)
        · refine lv_aload_n hx hb dX2_waiting_31 rfl (lv_at hl 0 rfl) ?_
          refine va_get (D := D) (ci := 2) (v := .ref (md 5)) (C := RX2) (T := TX2) (N := 16) hx hb hts hi2 hown hK hP 0 (mO _ _ _ _) rfl 8 (by decide) (hts (.fieldLink RX2 33 "GracefulRestartModel" "hasMarked" "[Z") (List.mem_of_getElem? (i := 4) rfl)) (fun _ h9 => h9) (mV_8 _ _) dX2_waiting_32 ?_
          refine lv_iconst (v := 2) hx hb dX2_waiting_35 (by decide) ?_
          refine lv_iload_n hx hb dX2_waiting_36 rfl (lv_at hl 2 rfl) ?_
          refine lv_imul hx hb dX2_waiting_37 ?_
          refine k_top (nx2 i) ?_
          refine k_zald (k := 2 * i + 0) hx hb hK hP 5 1 (mG_Hm _ _ _ _) rfl rfl (by omega) (by decide) dX2_waiting_38 ?_
          refine k_top (y := (g_Hm S) i 0) (fl_at 2 _ (p := i) (r := 0) (by omega)) ?_
          refine lv_if_eq (tgt := 55) hx hb dX2_waiting_39 (by decide) (fun c_39 => ?_) (fun c_39 => ?_)
          · refine lv_iconst (v := 1) hx hb dX2_waiting_55 (by decide) ?_
            refine lv_goto (tgt := 60) hx hb dX2_waiting_56 (by decide) ?_
            refine lv_istore_n (lv' := [(3, .int 1), (0, .ref (md 0)), (1, .int (o_Wt S i)), (2, .int (nI i))]) hx hb dX2_waiting_60 rfl hl (by decide) rfl (fun ls hl => ?_)
            refine lv_iload_n hx hb dX2_waiting_61 rfl (lv_at hl 2 rfl) ?_
            refine lv_iload_n hx hb dX2_waiting_62 rfl (lv_at hl 0 rfl) ?_
            refine lv_if_eq (tgt := 72) hx hb dX2_waiting_63 (by decide) (fun c_ => absurd c_ (by decide)) (fun _ => ?_)
            refine lv_iconst (v := 1) hx hb dX2_waiting_66 (by decide) ?_
            refine lv_iload_n hx hb dX2_waiting_67 rfl (lv_at hl 3 rfl) ?_
            refine lv_ishl hx hb dX2_waiting_68 ?_
            refine lv_goto (tgt := 73) hx hb dX2_waiting_69 (by decide) ?_
            refine lv_ior hx hb dX2_waiting_73 ?_
            refine k_top (y := o_Wt S (i + 1)) (wt_t ⟨c_18, c_28, Or.inl c_39⟩) ?_
            refine lv_istore_n (lv' := [(1, .int (o_Wt S (i + 1))), (3, .int 1), (0, .ref (md 0)), (2, .int (nI i))]) hx hb dX2_waiting_74 rfl hl (by decide) rfl (fun ls hl => ?_)
            refine lv_iinc (v := nI (i + 1)) (lv' := [(2, .int (nI (i + 1))), (1, .int (o_Wt S (i + 1))), (3, .int 1), (0, .ref (md 0))]) hx hb dX2_waiting_75 hl (k := 3) rfl (nI_1 i) (by decide) rfl (fun ls hl => ?_)
            refine lv_goto (tgt := 4) hx hb dX2_waiting_78 (by decide) ?_
            exact ih (i + 1) (by omega) _ _ ls hP hD hS (lv_sub hl [3, 1, 0] rfl)
          · refine lv_aload_n hx hb dX2_waiting_42 rfl (lv_at hl 0 rfl) ?_
            refine va_get (D := D) (ci := 2) (v := .ref (md 5)) (C := RX2) (T := TX2) (N := 16) hx hb hts hi2 hown hK hP 0 (mO _ _ _ _) rfl 8 (by decide) (hts (.fieldLink RX2 33 "GracefulRestartModel" "hasMarked" "[Z") (List.mem_of_getElem? (i := 4) rfl)) (fun _ h9 => h9) (mV_8 _ _) dX2_waiting_43 ?_
            refine lv_iconst (v := 2) hx hb dX2_waiting_46 (by decide) ?_
            refine lv_iload_n hx hb dX2_waiting_47 rfl (lv_at hl 2 rfl) ?_
            refine lv_imul hx hb dX2_waiting_48 ?_
            refine k_top (nx2 i) ?_
            refine lv_iconst (v := 1) hx hb dX2_waiting_49 (by decide) ?_
            refine lv_iadd hx hb dX2_waiting_50 ?_
            refine k_top (nI_1 (2 * i)) ?_
            refine k_zald (k := 2 * i + 1) hx hb hK hP 5 1 (mG_Hm _ _ _ _) rfl rfl (by omega) (by decide) dX2_waiting_51 ?_
            refine k_top (y := (g_Hm S) i 1) (fl_at 2 _ (p := i) (r := 1) (by omega)) ?_
            refine lv_if_ne (tgt := 59) hx hb dX2_waiting_52 (by decide) (fun c_52 => ?_) (fun c_52 => ?_)
            · refine lv_iconst (v := 0) hx hb dX2_waiting_59 (by decide) ?_
              refine lv_istore_n (lv' := [(3, .int 0), (0, .ref (md 0)), (1, .int (o_Wt S i)), (2, .int (nI i))]) hx hb dX2_waiting_60 rfl hl (by decide) rfl (fun ls hl => ?_)
              refine lv_iload_n hx hb dX2_waiting_61 rfl (lv_at hl 2 rfl) ?_
              refine lv_iload_n hx hb dX2_waiting_62 rfl (lv_at hl 0 rfl) ?_
              refine lv_if_eq (tgt := 72) hx hb dX2_waiting_63 (by decide) (fun _ => ?_) (fun c_ => absurd (by decide) c_)
              refine lv_iconst (v := 0) hx hb dX2_waiting_72 (by decide) ?_
              refine lv_ior hx hb dX2_waiting_73 ?_
              refine k_top (y := o_Wt S (i + 1)) ((or_zero _).trans (wt_f (fun z => z.2.2.elim c_39 c_52))) ?_
              refine lv_istore_n (lv' := [(1, .int (o_Wt S (i + 1))), (3, .int 0), (0, .ref (md 0)), (2, .int (nI i))]) hx hb dX2_waiting_74 rfl hl (by decide) rfl (fun ls hl => ?_)
              refine lv_iinc (v := nI (i + 1)) (lv' := [(2, .int (nI (i + 1))), (1, .int (o_Wt S (i + 1))), (3, .int 0), (0, .ref (md 0))]) hx hb dX2_waiting_75 hl (k := 3) rfl (nI_1 i) (by decide) rfl (fun ls hl => ?_)
              refine lv_goto (tgt := 4) hx hb dX2_waiting_78 (by decide) ?_
              exact ih (i + 1) (by omega) _ _ ls hP hD hS (lv_sub hl [3, 1, 0] rfl)
            · refine lv_iconst (v := 1) hx hb dX2_waiting_55 (by decide) ?_
              refine lv_goto (tgt := 60) hx hb dX2_waiting_56 (by decide) ?_
              refine lv_istore_n (lv' := [(3, .int 1), (0, .ref (md 0)), (1, .int (o_Wt S i)), (2, .int (nI i))]) hx hb dX2_waiting_60 rfl hl (by decide) rfl (fun ls hl => ?_)
              refine lv_iload_n hx hb dX2_waiting_61 rfl (lv_at hl 2 rfl) ?_
              refine lv_iload_n hx hb dX2_waiting_62 rfl (lv_at hl 0 rfl) ?_
              refine lv_if_eq (tgt := 72) hx hb dX2_waiting_63 (by decide) (fun c_ => absurd c_ (by decide)) (fun _ => ?_)
              refine lv_iconst (v := 1) hx hb dX2_waiting_66 (by decide) ?_
              refine lv_iload_n hx hb dX2_waiting_67 rfl (lv_at hl 3 rfl) ?_
              refine lv_ishl hx hb dX2_waiting_68 ?_
              refine lv_goto (tgt := 73) hx hb dX2_waiting_69 (by decide) ?_
              refine lv_ior hx hb dX2_waiting_73 ?_
              refine k_top (y := o_Wt S (i + 1)) (wt_t ⟨c_18, c_28, Or.inr c_52⟩) ?_
              refine lv_istore_n (lv' := [(1, .int (o_Wt S (i + 1))), (3, .int 1), (0, .ref (md 0)), (2, .int (nI i))]) hx hb dX2_waiting_74 rfl hl (by decide) rfl (fun ls hl => ?_)
              refine lv_iinc (v := nI (i + 1)) (lv' := [(2, .int (nI (i + 1))), (1, .int (o_Wt S (i + 1))), (3, .int 1), (0, .ref (md 0))]) hx hb dX2_waiting_75 hl (k := 3) rfl (nI_1 i) (by decide) rfl (fun ls hl => ?_)
              refine lv_goto (tgt := 4) hx hb dX2_waiting_78 (by decide) ?_
              exact ih (i + 1) (by omega) _ _ ls hP hD hS (lv_sub hl [3, 1, 0] rfl)
  exact lp4 (g_N S) 0 (by omega) _ _ ls hP hD hS (lv_sub hl [2, 1, 0] rfl)

set_option maxRecDepth 100000 in
set_option maxHeartbeats 4000000 in
theorem c_X2_waitingPeers (l : Launch) (D : va_G) (cI cZ cP : ClassId) (md : Nat → Nat) (S : ST)  (hn : g_N S ≤ 5) : MM l yX2_waitingPeers wsX2_waitingPeers ({ frames := 1, cells := 0, slots := 0, locals := 23 }) D (kTy cI cZ cP) [.ref (md 0)] (mW cI cZ md S) (some (.int (if g_Df S = 0 then 0 else o_Wt S (g_N S)))) (mW cI cZ md S) := by
  refine MM.ofW (cc := cX2_waitingPeers) (maxL := 1) (ret := (some .int)) (by decide) rfl (Nat.le_of_ble_eq_true rfl) ?_
  intro p e s m below meth c ls A hx hb hr hlk hml hts hown hK hN hP hD hS hAe hl
  have hown : s.vm.findClass RX2 = some m.cls := hown
  have hi2 : ∀ w ∈ wsX20, w ∈ wsX2_waitingPeers := fun w h => List.mem_cons_of_mem _ (List.mem_append_right _ h)
  have hl : lv_has ls 1 [(0, .ref (md 0))] := hl
  refine lv_aload_n hx hb dX2_waitingPeers_0 rfl (lv_at hl 0 rfl) ?_
  refine va_get (D := D) (ci := 2) (v := .int (g_Df S)) (C := RX2) (T := TX2) (N := 16) hx hb hts hi2 hown hK hP 0 (mO _ _ _ _) rfl 14 (by decide) (hts (.fieldLink RX2 70 "GracefulRestartModel" "isDeferringNow" "Z") (List.mem_of_getElem? (i := 1) rfl)) (fun _ h9 => h9) (mV_Df _ _) dX2_waitingPeers_1 ?_
  refine lv_if_eq (tgt := 14) hx hb dX2_waitingPeers_4 (by decide) (fun c_4 => ?_) (fun c_4 => ?_)
  · refine lv_iconst (v := 0) hx hb dX2_waitingPeers_14 (by decide) ?_
    exact k_iret hx hb hr hlk hP hS hAe (by simp [c_4]) rfl dX2_waitingPeers_15
  · refine lv_aload_n hx hb dX2_waitingPeers_7 rfl (lv_at hl 0 rfl) ?_
    refine kV (As := []) (rest := []) (Wc := (mW cI cZ md S)) (Wc1 := (mW cI cZ md S)) (Wd1 := (mW cI cZ md S)) (o := some (.int (o_Wt S (g_N S)))) ⟨hx, hb, hml, hown, hts⟩ (c_X2_waiting l D cI cZ cP md S hn) (cwV 0 hts gX2_waitingPeers_X2_waiting rfl rfl rfl (by decide +kernel) ⟨Nat.le_of_ble_eq_true rfl, Nat.le_of_ble_eq_true rfl⟩) hK hN hP hD hS (fun j => j) (fun _ _ h => h) (fun _ _ _ _ h => h) (mAdr _ _ _ _ _) (fun k q h => Or.inl ⟨k, h⟩) 0 2 rfl rfl (mO _ _ _ _) rfl hl.1 rfl (Nat.le_of_ble_eq_true rfl) ⟨Nat.zero_le _, Nat.zero_le _⟩ dX2_waitingPeers_8 (fun H locs hP hD hS => ?_)
    refine lv_goto (tgt := 15) hx hb dX2_waitingPeers_11 (by decide) ?_
    exact k_iret hx hb hr hlk hP hS hAe (by simp [c_4]) rfl dX2_waitingPeers_15

set_option maxRecDepth 100000 in
set_option maxHeartbeats 4000000 in
theorem c_X2_checksDeferral (l : Launch) (D : va_G) (cI cZ cP : ClassId) (md : Nat → Nat) (S : ST)  (hI : Inv S) : MM l yX2_checksDeferral wsX2_checksDeferral ({ frames := 3, cells := 0, slots := 0, locals := 68 }) D (kTy cI cZ cP) [.ref (md 0)] (mW cI cZ md S) (none) (mW cI cZ md (o_Chk S)) := by
  refine MM.ofW (cc := cX2_checksDeferral) (maxL := 2) (ret := none) (by decide) rfl (Nat.le_of_ble_eq_true rfl) ?_
  intro p e s m below meth c ls A hx hb hr hlk hml hts hown hK hN hP hD hS hAe hl
  have hown : s.vm.findClass RX2 = some m.cls := hown
  have hi2 : ∀ w ∈ wsX20, w ∈ wsX2_checksDeferral := fun w h => List.mem_cons_of_mem _ (List.mem_append_right _ h)
  have hl : lv_has ls 2 [(0, .ref (md 0))] := hl
  have hn : g_N S ≤ 5 := hI.1
  refine lv_aload_n hx hb dX2_checksDeferral_0 rfl (lv_at hl 0 rfl) ?_
  refine va_get (D := D) (ci := 2) (v := .int (g_Df S)) (C := RX2) (T := TX2) (N := 16) hx hb hts hi2 hown hK hP 0 (mO _ _ _ _) rfl 14 (by decide) (hts (.fieldLink RX2 70 "GracefulRestartModel" "isDeferringNow" "Z") (List.mem_of_getElem? (i := 1) rfl)) (fun _ h9 => h9) (mV_Df _ _) dX2_checksDeferral_1 ?_
  refine lv_if_eq (tgt := 21) hx hb dX2_checksDeferral_4 (by decide) (fun c_4 => ?_) (fun c_4 => ?_)
  · exact k_vret hx hb hr hlk hP hS hAe (by rw [← chk_no c_4]) dX2_checksDeferral_21
  · refine lv_aload_n hx hb dX2_checksDeferral_7 rfl (lv_at hl 0 rfl) ?_
    refine kV (As := []) (rest := []) (Wc := (mW cI cZ md S)) (Wc1 := (mW cI cZ md S)) (Wd1 := (mW cI cZ md S)) (o := some (.int (o_Wt S (g_N S)))) ⟨hx, hb, hml, hown, hts⟩ (c_X2_waiting l D cI cZ cP md S hn) (cwV 0 hts gX2_checksDeferral_X2_waiting rfl rfl rfl (by decide +kernel) ⟨Nat.le_of_ble_eq_true rfl, Nat.le_of_ble_eq_true rfl⟩) hK hN hP hD hS (fun j => j) (fun _ _ h => h) (fun _ _ _ _ h => h) (mAdr _ _ _ _ _) (fun k q h => Or.inl ⟨k, h⟩) 0 2 rfl rfl (mO _ _ _ _) rfl hl.1 rfl (Nat.le_of_ble_eq_true rfl) ⟨Nat.zero_le _, Nat.zero_le _⟩ dX2_checksDeferral_8 (fun H locs hP hD hS => ?_)
    refine lv_if_eq (tgt := 22) hx hb dX2_checksDeferral_11 (by decide) (fun c_11 => ?_) (fun c_11 => ?_)
    · refine lv_aload_n hx hb dX2_checksDeferral_22 rfl (lv_at hl 0 rfl) ?_
      refine lv_iconst (v := 0) hx hb dX2_checksDeferral_23 (by decide) ?_
      refine k_put (D := D) (ci := 2) (v := .int 0) (ty := .boolean) (C := RX2) (T := TX2) (N := 16) hx hb hts hi2 tyX2 tyX2_ok nmX2 hown hK hP hD hS 0 (mO _ _ _ _) rfl 14 (by decide) (hts (.fieldLink RX2 70 "GracefulRestartModel" "isDeferringNow" "Z") (List.mem_of_getElem? (i := 1) rfl)) (fun _ h9 => h9) rfl (by decide +kernel) rfl rfl (Nat.le_of_ble_eq_true rfl) (W1 := (mW cI cZ md (s_Df S 0))) (mP_Df _ _ _ _ _) dX2_checksDeferral_24 (fun H locs hP hD hS => ?_)
      refine lv_aload_n hx hb dX2_checksDeferral_27 rfl (lv_at hl 0 rfl) ?_
      refine lv_iconst (v := 0) hx hb dX2_checksDeferral_28 (by decide) ?_
      refine k_put (D := D) (ci := 2) (v := .int 0) (ty := .int) (C := RX2) (T := TX2) (N := 16) hx hb hts hi2 tyX2 tyX2_ok nmX2 hown hK hP hD hS 0 (mO _ _ _ _) rfl 15 (by decide) (hts (.fieldLink RX2 78 "GracefulRestartModel" "deferralTimerNow" "I") (List.mem_of_getElem? (i := 2) rfl)) (fun _ h9 => h9) rfl (by decide +kernel) rfl rfl (Nat.le_of_ble_eq_true rfl) (W1 := (mW cI cZ md (s_Dl (s_Df S 0) 0))) (mP_Dl _ _ _ _ _) dX2_checksDeferral_29 (fun H locs hP hD hS => ?_)
      refine lv_aload_n hx hb dX2_checksDeferral_32 rfl (lv_at hl 0 rfl) ?_
      refine kV (As := []) (rest := []) (Wc := (mW cI cZ md (s_Dl (s_Df S 0) 0))) (Wc1 := (mW cI cZ md (o_SA (s_Dl (s_Df S 0) 0) 16))) (Wd1 := (mW cI cZ md (o_SA (s_Dl (s_Df S 0) 0) 16))) (o := none) ⟨hx, hb, hml, hown, hts⟩ (c_X2_selectsAll l D cI cZ cP md (s_Dl (s_Df S 0) 0) hn) (cwV 0 hts gX2_checksDeferral_X2_selectsAll rfl rfl rfl (by decide +kernel) ⟨Nat.le_of_ble_eq_true rfl, Nat.le_of_ble_eq_true rfl⟩) hK hN hP hD hS (fun j => j) (fun _ _ h => h) (fun _ _ _ _ h => h) (mAdr _ _ _ _ _) (fun k q h => Or.inl ⟨k, h⟩) 0 2 rfl rfl (mO _ _ _ _) rfl hl.1 rfl (Nat.le_of_ble_eq_true rfl) ⟨Nat.zero_le _, Nat.zero_le _⟩ dX2_checksDeferral_33 (fun H locs hP hD hS => ?_)
      refine lv_iconst (v := 0) hx hb dX2_checksDeferral_36 (by decide) ?_
      refine lv_istore_n (lv' := [(1, .int 0), (0, .ref (md 0))]) hx hb dX2_checksDeferral_37 rfl hl (by decide) rfl (fun ls hl => ?_)
      have lp38 : ∀ (n9 i : Nat), i + n9 = g_N S → ∀ (H : Heap) (locs : List Loc) (ls : Array Slot), va_P D vwCl (mW cI cZ md (o_ER (o_SA (s_Dl (s_Df S 0) 0) 16) i)) H → va_D A (mW cI cZ md (o_ER (o_SA (s_Dl (s_Df S 0) 0) 16) i)) → va_S A s.heap H locs → lv_has ls 2 [(0, .ref (md 0)), (1, .int (nI i))] → W p l e (headSpec wsX2_checksDeferral ({ frames := 3, cells := 0, slots := 0, locals := 68 })).room s m ([.ref (md 0)] : List Value).toArray below meth c H locs 0 0 (MQ below (kPost D (mW cI cZ md S) (mW cI cZ md (o_Chk S)) (none)) ([.ref (md 0)] : List Value).toArray s 0 0 (kA (mW cI cZ md S))) (F0 m 38 ls []) := by
        intro n9
        induction n9 with
        | zero =>
          intro i hi9 H locs ls hP hD hS hl
          have hi8 : i = g_N S := by omega
          subst hi8
          refine lv_iload_n hx hb dX2_checksDeferral_38 rfl (lv_at hl 1 rfl) ?_
          refine lv_aload_n hx hb dX2_checksDeferral_39 rfl (lv_at hl 0 rfl) ?_
          refine va_get (D := D) (ci := 2) (v := .int (nI (g_N (o_ER (o_SA (s_Dl (s_Df S 0) 0) 16) (g_N S))))) (C := RX2) (T := TX2) (N := 16) hx hb hts hi2 hown hK hP 0 (mO _ _ _ _) rfl 3 (by decide) (hts (.fieldLink RX2 55 "GracefulRestartModel" "peers" "I") (List.mem_of_getElem? (i := 3) rfl)) (fun _ h9 => h9) (mV_N _ _) dX2_checksDeferral_40 ?_
          refine k_top (y := nI (g_N S)) (congrArg nI ((o_ER_N _ _).trans (o_SA_N _ _))) ?_
          refine lv_icmp_ge (tgt := 75) hx hb dX2_checksDeferral_43 (by decide) (fun _ => ?_) (fun c_ => absurd (Int32.le_refl _) c_)
          exact k_vret hx hb hr hlk hP hS hAe (by rw [End_e, chk_end c_4 (Or.inr c_11)]) dX2_checksDeferral_75
        | succ n9 ih =>
          intro i hi9 H locs ls hP hD hS hl
          have hlt : i < g_N S := by omega
          refine lv_iload_n hx hb dX2_checksDeferral_38 rfl (lv_at hl 1 rfl) ?_
          refine lv_aload_n hx hb dX2_checksDeferral_39 rfl (lv_at hl 0 rfl) ?_
          refine va_get (D := D) (ci := 2) (v := .int (nI (g_N (o_ER (o_SA (s_Dl (s_Df S 0) 0) 16) i)))) (C := RX2) (T := TX2) (N := 16) hx hb hts hi2 hown hK hP 0 (mO _ _ _ _) rfl 3 (by decide) (hts (.fieldLink RX2 55 "GracefulRestartModel" "peers" "I") (List.mem_of_getElem? (i := 3) rfl)) (fun _ h9 => h9) (mV_N _ _) dX2_checksDeferral_40 ?_
          refine k_top (y := nI (g_N S)) (congrArg nI ((o_ER_N _ _).trans (o_SA_N _ _))) ?_
          refine lv_icmp_ge (tgt := 75) hx hb dX2_checksDeferral_43 (by decide) (fun c_ => absurd c_ (nI_ge (a := i) (b := g_N S) hlt (by omega))) (fun _ => ?_)
          refine lv_aload_n hx hb dX2_checksDeferral_46 rfl (lv_at hl 0 rfl) ?_
          refine va_get (D := D) (ci := 2) (v := .ref (md 2)) (C := RX2) (T := TX2) (N := 16) hx hb hts hi2 hown hK hP 0 (mO _ _ _ _) rfl 5 (by decide) (hts (.fieldLink RX2 23 "GracefulRestartModel" "stateOf" "[I") (List.mem_of_getElem? (i := 4) rfl)) (fun _ h9 => h9) (mV_5 _ _) dX2_checksDeferral_47 ?_
          refine lv_iload_n hx hb dX2_checksDeferral_50 rfl (lv_at hl 1 rfl) ?_
          refine k_iald (k := i) hx hb hK hP 2 0 (mG_St _ _ _ _) rfl rfl (by omega) (by decide) dX2_checksDeferral_51 ?_
          refine k_top (y := (g_St S) i) (congrFun ((o_ER_St _ _).trans (o_SA_St _ _)) i) ?_
          refine lv_if_ne (tgt := 69) hx hb dX2_checksDeferral_52 (by decide) (fun c_52 => ?_) (fun c_52 => ?_)
          · refine lv_iinc (v := nI (i + 1)) (lv' := [(1, .int (nI (i + 1))), (0, .ref (md 0))]) hx hb dX2_checksDeferral_69 hl (k := 1) rfl (nI_1 i) (by decide) rfl (fun ls hl => ?_)
            refine lv_goto (tgt := 38) hx hb dX2_checksDeferral_72 (by decide) ?_
            rw [ER_f (S := o_SA (s_Dl (s_Df S 0) 0) 16) (by rw [o_SA_St]; exact c_52)] at hP hD
            exact ih (i + 1) (by omega) _ _ ls hP hD hS (lv_sub hl [1, 0] rfl)
          · refine lv_aload_n hx hb dX2_checksDeferral_55 rfl (lv_at hl 0 rfl) ?_
            refine lv_iload_n hx hb dX2_checksDeferral_56 rfl (lv_at hl 1 rfl) ?_
            refine lv_iconst (v := 1) hx hb dX2_checksDeferral_57 (by decide) ?_
            refine kV (As := [.int (nI i), .int 1]) (rest := []) (Wc := (mW cI cZ md (o_ER (o_SA (s_Dl (s_Df S 0) 0) 16) i))) (Wc1 := (mW cI cZ md (o_RmS (o_ER (o_SA (s_Dl (s_Df S 0) 0) 16) i) i))) (Wd1 := (mW cI cZ md (o_RmS (o_ER (o_SA (s_Dl (s_Df S 0) 0) 16) i) i))) (o := some (.int (kCnt (nz (g_Ss (o_ER (o_SA (s_Dl (s_Df S 0) 0) 16) i) i)) 16))) ⟨hx, hb, hml, hown, hts⟩ (c_X2_forgets1 l D cI cZ cP md (o_ER (o_SA (s_Dl (s_Df S 0) 0) 16) i) i (by omega) ((inv_ER (inv_E2 hI) (by rw [E2_N]; omega)).2.1 i)) (cwV 2 hts gX2_checksDeferral_X2_forgets rfl rfl rfl (by decide +kernel) ⟨Nat.le_of_ble_eq_true rfl, Nat.le_of_ble_eq_true rfl⟩) hK hN hP hD hS (fun j => j) (fun _ _ h => h) (fun _ _ _ _ h => h) (mAdr _ _ _ _ _) (fun k q h => Or.inl ⟨k, h⟩) 0 2 rfl rfl (mO _ _ _ _) rfl hl.1 rfl (Nat.le_of_ble_eq_true rfl) ⟨Nat.zero_le _, Nat.zero_le _⟩ dX2_checksDeferral_58 (fun H locs hP hD hS => ?_)
            refine lv_pop hx hb dX2_checksDeferral_61 rfl ?_
            refine lv_aload_n hx hb dX2_checksDeferral_62 rfl (lv_at hl 0 rfl) ?_
            refine va_get (D := D) (ci := 2) (v := .ref (md 4)) (C := RX2) (T := TX2) (N := 16) hx hb hts hi2 hown hK hP 0 (mO _ _ _ _) rfl 7 (by decide) (hts (.fieldLink RX2 30 "GracefulRestartModel" "staleTimerOf" "[I") (List.mem_of_getElem? (i := 5) rfl)) (fun _ h9 => h9) (mV_7 _ _) dX2_checksDeferral_63 ?_
            refine lv_iload_n hx hb dX2_checksDeferral_66 rfl (lv_at hl 1 rfl) ?_
            refine lv_iconst (v := 0) hx hb dX2_checksDeferral_67 (by decide) ?_
            refine k_iast (k := i) hx hb hK hP hD hS 4 0 (mG_Sl _ _ _ _) rfl rfl (by omega) (by decide) (W1 := (mW cI cZ md (o_ER (o_SA (s_Dl (s_Df S 0) 0) 16) (i + 1)))) (by rw [show g_Sl (o_RmS (o_ER (o_SA (s_Dl (s_Df S 0) 0) 16) i) i) = g_Sl (o_ER (o_SA (s_Dl (s_Df S 0) 0) 16) i) from (o_RmS_Sl _ _), mS_Sl, ERes_e, ER_t (S := o_SA (s_Dl (s_Df S 0) 0) 16) (by rw [o_SA_St]; exact c_52)]) dX2_checksDeferral_68 (fun H locs hP hD hS => ?_)
            refine lv_iinc (v := nI (i + 1)) (lv' := [(1, .int (nI (i + 1))), (0, .ref (md 0))]) hx hb dX2_checksDeferral_69 hl (k := 1) rfl (nI_1 i) (by decide) rfl (fun ls hl => ?_)
            refine lv_goto (tgt := 38) hx hb dX2_checksDeferral_72 (by decide) ?_
            exact ih (i + 1) (by omega) _ _ ls hP hD hS (lv_sub hl [1, 0] rfl)
      exact lp38 (g_N S) 0 (by omega) _ _ ls (by rw [ER_0]; exact hP) (by rw [ER_0]; exact hD) hS (lv_sub hl [1, 0] rfl)
    · refine lv_aload_n hx hb dX2_checksDeferral_14 rfl (lv_at hl 0 rfl) ?_
      refine va_get (D := D) (ci := 2) (v := .int (g_Dl S)) (C := RX2) (T := TX2) (N := 16) hx hb hts hi2 hown hK hP 0 (mO _ _ _ _) rfl 15 (by decide) (hts (.fieldLink RX2 78 "GracefulRestartModel" "deferralTimerNow" "I") (List.mem_of_getElem? (i := 2) rfl)) (fun _ h9 => h9) (mV_Dl _ _) dX2_checksDeferral_15 ?_
      refine lv_if_le (tgt := 22) hx hb dX2_checksDeferral_18 (by decide) (fun c_18 => ?_) (fun c_18 => ?_)
      · refine lv_aload_n hx hb dX2_checksDeferral_22 rfl (lv_at hl 0 rfl) ?_
        refine lv_iconst (v := 0) hx hb dX2_checksDeferral_23 (by decide) ?_
        refine k_put (D := D) (ci := 2) (v := .int 0) (ty := .boolean) (C := RX2) (T := TX2) (N := 16) hx hb hts hi2 tyX2 tyX2_ok nmX2 hown hK hP hD hS 0 (mO _ _ _ _) rfl 14 (by decide) (hts (.fieldLink RX2 70 "GracefulRestartModel" "isDeferringNow" "Z") (List.mem_of_getElem? (i := 1) rfl)) (fun _ h9 => h9) rfl (by decide +kernel) rfl rfl (Nat.le_of_ble_eq_true rfl) (W1 := (mW cI cZ md (s_Df S 0))) (mP_Df _ _ _ _ _) dX2_checksDeferral_24 (fun H locs hP hD hS => ?_)
        refine lv_aload_n hx hb dX2_checksDeferral_27 rfl (lv_at hl 0 rfl) ?_
        refine lv_iconst (v := 0) hx hb dX2_checksDeferral_28 (by decide) ?_
        refine k_put (D := D) (ci := 2) (v := .int 0) (ty := .int) (C := RX2) (T := TX2) (N := 16) hx hb hts hi2 tyX2 tyX2_ok nmX2 hown hK hP hD hS 0 (mO _ _ _ _) rfl 15 (by decide) (hts (.fieldLink RX2 78 "GracefulRestartModel" "deferralTimerNow" "I") (List.mem_of_getElem? (i := 2) rfl)) (fun _ h9 => h9) rfl (by decide +kernel) rfl rfl (Nat.le_of_ble_eq_true rfl) (W1 := (mW cI cZ md (s_Dl (s_Df S 0) 0))) (mP_Dl _ _ _ _ _) dX2_checksDeferral_29 (fun H locs hP hD hS => ?_)
        refine lv_aload_n hx hb dX2_checksDeferral_32 rfl (lv_at hl 0 rfl) ?_
        refine kV (As := []) (rest := []) (Wc := (mW cI cZ md (s_Dl (s_Df S 0) 0))) (Wc1 := (mW cI cZ md (o_SA (s_Dl (s_Df S 0) 0) 16))) (Wd1 := (mW cI cZ md (o_SA (s_Dl (s_Df S 0) 0) 16))) (o := none) ⟨hx, hb, hml, hown, hts⟩ (c_X2_selectsAll l D cI cZ cP md (s_Dl (s_Df S 0) 0) hn) (cwV 0 hts gX2_checksDeferral_X2_selectsAll rfl rfl rfl (by decide +kernel) ⟨Nat.le_of_ble_eq_true rfl, Nat.le_of_ble_eq_true rfl⟩) hK hN hP hD hS (fun j => j) (fun _ _ h => h) (fun _ _ _ _ h => h) (mAdr _ _ _ _ _) (fun k q h => Or.inl ⟨k, h⟩) 0 2 rfl rfl (mO _ _ _ _) rfl hl.1 rfl (Nat.le_of_ble_eq_true rfl) ⟨Nat.zero_le _, Nat.zero_le _⟩ dX2_checksDeferral_33 (fun H locs hP hD hS => ?_)
        refine lv_iconst (v := 0) hx hb dX2_checksDeferral_36 (by decide) ?_
        refine lv_istore_n (lv' := [(1, .int 0), (0, .ref (md 0))]) hx hb dX2_checksDeferral_37 rfl hl (by decide) rfl (fun ls hl => ?_)
        have lp38 : ∀ (n9 i : Nat), i + n9 = g_N S → ∀ (H : Heap) (locs : List Loc) (ls : Array Slot), va_P D vwCl (mW cI cZ md (o_ER (o_SA (s_Dl (s_Df S 0) 0) 16) i)) H → va_D A (mW cI cZ md (o_ER (o_SA (s_Dl (s_Df S 0) 0) 16) i)) → va_S A s.heap H locs → lv_has ls 2 [(0, .ref (md 0)), (1, .int (nI i))] → W p l e (headSpec wsX2_checksDeferral ({ frames := 3, cells := 0, slots := 0, locals := 68 })).room s m ([.ref (md 0)] : List Value).toArray below meth c H locs 0 0 (MQ below (kPost D (mW cI cZ md S) (mW cI cZ md (o_Chk S)) (none)) ([.ref (md 0)] : List Value).toArray s 0 0 (kA (mW cI cZ md S))) (F0 m 38 ls []) := by
          intro n9
          induction n9 with
          | zero =>
            intro i hi9 H locs ls hP hD hS hl
            have hi8 : i = g_N S := by omega
            subst hi8
            refine lv_iload_n hx hb dX2_checksDeferral_38 rfl (lv_at hl 1 rfl) ?_
            refine lv_aload_n hx hb dX2_checksDeferral_39 rfl (lv_at hl 0 rfl) ?_
            refine va_get (D := D) (ci := 2) (v := .int (nI (g_N (o_ER (o_SA (s_Dl (s_Df S 0) 0) 16) (g_N S))))) (C := RX2) (T := TX2) (N := 16) hx hb hts hi2 hown hK hP 0 (mO _ _ _ _) rfl 3 (by decide) (hts (.fieldLink RX2 55 "GracefulRestartModel" "peers" "I") (List.mem_of_getElem? (i := 3) rfl)) (fun _ h9 => h9) (mV_N _ _) dX2_checksDeferral_40 ?_
            refine k_top (y := nI (g_N S)) (congrArg nI ((o_ER_N _ _).trans (o_SA_N _ _))) ?_
            refine lv_icmp_ge (tgt := 75) hx hb dX2_checksDeferral_43 (by decide) (fun _ => ?_) (fun c_ => absurd (Int32.le_refl _) c_)
            exact k_vret hx hb hr hlk hP hS hAe (by rw [End_e, chk_end c_4 (Or.inl (i32_zero hI.2.2.2.2.2.1.1 (Int32.not_lt.mpr c_18)))]) dX2_checksDeferral_75
          | succ n9 ih =>
            intro i hi9 H locs ls hP hD hS hl
            have hlt : i < g_N S := by omega
            refine lv_iload_n hx hb dX2_checksDeferral_38 rfl (lv_at hl 1 rfl) ?_
            refine lv_aload_n hx hb dX2_checksDeferral_39 rfl (lv_at hl 0 rfl) ?_
            refine va_get (D := D) (ci := 2) (v := .int (nI (g_N (o_ER (o_SA (s_Dl (s_Df S 0) 0) 16) i)))) (C := RX2) (T := TX2) (N := 16) hx hb hts hi2 hown hK hP 0 (mO _ _ _ _) rfl 3 (by decide) (hts (.fieldLink RX2 55 "GracefulRestartModel" "peers" "I") (List.mem_of_getElem? (i := 3) rfl)) (fun _ h9 => h9) (mV_N _ _) dX2_checksDeferral_40 ?_
            refine k_top (y := nI (g_N S)) (congrArg nI ((o_ER_N _ _).trans (o_SA_N _ _))) ?_
            refine lv_icmp_ge (tgt := 75) hx hb dX2_checksDeferral_43 (by decide) (fun c_ => absurd c_ (nI_ge (a := i) (b := g_N S) hlt (by omega))) (fun _ => ?_)
            refine lv_aload_n hx hb dX2_checksDeferral_46 rfl (lv_at hl 0 rfl) ?_
            refine va_get (D := D) (ci := 2) (v := .ref (md 2)) (C := RX2) (T := TX2) (N := 16) hx hb hts hi2 hown hK hP 0 (mO _ _ _ _) rfl 5 (by decide) (hts (.fieldLink RX2 23 "GracefulRestartModel" "stateOf" "[I") (List.mem_of_getElem? (i := 4) rfl)) (fun _ h9 => h9) (mV_5 _ _) dX2_checksDeferral_47 ?_
            refine lv_iload_n hx hb dX2_checksDeferral_50 rfl (lv_at hl 1 rfl) ?_
            refine k_iald (k := i) hx hb hK hP 2 0 (mG_St _ _ _ _) rfl rfl (by omega) (by decide) dX2_checksDeferral_51 ?_
            refine k_top (y := (g_St S) i) (congrFun ((o_ER_St _ _).trans (o_SA_St _ _)) i) ?_
            refine lv_if_ne (tgt := 69) hx hb dX2_checksDeferral_52 (by decide) (fun c_52 => ?_) (fun c_52 => ?_)
            · refine lv_iinc (v := nI (i + 1)) (lv' := [(1, .int (nI (i + 1))), (0, .ref (md 0))]) hx hb dX2_checksDeferral_69 hl (k := 1) rfl (nI_1 i) (by decide) rfl (fun ls hl => ?_)
              refine lv_goto (tgt := 38) hx hb dX2_checksDeferral_72 (by decide) ?_
              rw [ER_f (S := o_SA (s_Dl (s_Df S 0) 0) 16) (by rw [o_SA_St]; exact c_52)] at hP hD
              exact ih (i + 1) (by omega) _ _ ls hP hD hS (lv_sub hl [1, 0] rfl)
            · refine lv_aload_n hx hb dX2_checksDeferral_55 rfl (lv_at hl 0 rfl) ?_
              refine lv_iload_n hx hb dX2_checksDeferral_56 rfl (lv_at hl 1 rfl) ?_
              refine lv_iconst (v := 1) hx hb dX2_checksDeferral_57 (by decide) ?_
              refine kV (As := [.int (nI i), .int 1]) (rest := []) (Wc := (mW cI cZ md (o_ER (o_SA (s_Dl (s_Df S 0) 0) 16) i))) (Wc1 := (mW cI cZ md (o_RmS (o_ER (o_SA (s_Dl (s_Df S 0) 0) 16) i) i))) (Wd1 := (mW cI cZ md (o_RmS (o_ER (o_SA (s_Dl (s_Df S 0) 0) 16) i) i))) (o := some (.int (kCnt (nz (g_Ss (o_ER (o_SA (s_Dl (s_Df S 0) 0) 16) i) i)) 16))) ⟨hx, hb, hml, hown, hts⟩ (c_X2_forgets1 l D cI cZ cP md (o_ER (o_SA (s_Dl (s_Df S 0) 0) 16) i) i (by omega) ((inv_ER (inv_E2 hI) (by rw [E2_N]; omega)).2.1 i)) (cwV 2 hts gX2_checksDeferral_X2_forgets rfl rfl rfl (by decide +kernel) ⟨Nat.le_of_ble_eq_true rfl, Nat.le_of_ble_eq_true rfl⟩) hK hN hP hD hS (fun j => j) (fun _ _ h => h) (fun _ _ _ _ h => h) (mAdr _ _ _ _ _) (fun k q h => Or.inl ⟨k, h⟩) 0 2 rfl rfl (mO _ _ _ _) rfl hl.1 rfl (Nat.le_of_ble_eq_true rfl) ⟨Nat.zero_le _, Nat.zero_le _⟩ dX2_checksDeferral_58 (fun H locs hP hD hS => ?_)
              refine lv_pop hx hb dX2_checksDeferral_61 rfl ?_
              refine lv_aload_n hx hb dX2_checksDeferral_62 rfl (lv_at hl 0 rfl) ?_
              refine va_get (D := D) (ci := 2) (v := .ref (md 4)) (C := RX2) (T := TX2) (N := 16) hx hb hts hi2 hown hK hP 0 (mO _ _ _ _) rfl 7 (by decide) (hts (.fieldLink RX2 30 "GracefulRestartModel" "staleTimerOf" "[I") (List.mem_of_getElem? (i := 5) rfl)) (fun _ h9 => h9) (mV_7 _ _) dX2_checksDeferral_63 ?_
              refine lv_iload_n hx hb dX2_checksDeferral_66 rfl (lv_at hl 1 rfl) ?_
              refine lv_iconst (v := 0) hx hb dX2_checksDeferral_67 (by decide) ?_
              refine k_iast (k := i) hx hb hK hP hD hS 4 0 (mG_Sl _ _ _ _) rfl rfl (by omega) (by decide) (W1 := (mW cI cZ md (o_ER (o_SA (s_Dl (s_Df S 0) 0) 16) (i + 1)))) (by rw [show g_Sl (o_RmS (o_ER (o_SA (s_Dl (s_Df S 0) 0) 16) i) i) = g_Sl (o_ER (o_SA (s_Dl (s_Df S 0) 0) 16) i) from (o_RmS_Sl _ _), mS_Sl, ERes_e, ER_t (S := o_SA (s_Dl (s_Df S 0) 0) 16) (by rw [o_SA_St]; exact c_52)]) dX2_checksDeferral_68 (fun H locs hP hD hS => ?_)
              refine lv_iinc (v := nI (i + 1)) (lv' := [(1, .int (nI (i + 1))), (0, .ref (md 0))]) hx hb dX2_checksDeferral_69 hl (k := 1) rfl (nI_1 i) (by decide) rfl (fun ls hl => ?_)
              refine lv_goto (tgt := 38) hx hb dX2_checksDeferral_72 (by decide) ?_
              exact ih (i + 1) (by omega) _ _ ls hP hD hS (lv_sub hl [1, 0] rfl)
        exact lp38 (g_N S) 0 (by omega) _ _ ls (by rw [ER_0]; exact hP) (by rw [ER_0]; exact hD) hS (lv_sub hl [1, 0] rfl)
      · exact k_vret hx hb hr hlk hP hS hAe (by rw [← chk_wait c_4 (fun z => c_18 (by rw [z]; decide)) c_11]) dX2_checksDeferral_21
end
section
/-! steps of the calls -/
theorem o_Hm0_T1 (S : ST) (p : Nat) : g_T1 (o_Hm0 S p) = g_T1 S := rfl
theorem o_Hm0_T2 (S : ST) (p : Nat) : g_T2 (o_Hm0 S p) = g_T2 S := rfl
theorem o_Hm0_T3 (S : ST) (p : Nat) : g_T3 (o_Hm0 S p) = g_T3 S := rfl
theorem o_Hm0_N (S : ST) (p : Nat) : g_N (o_Hm0 S p) = g_N S := rfl
theorem o_Hm0_Gr (S : ST) (p : Nat) : g_Gr (o_Hm0 S p) = g_Gr S := rfl
theorem o_Hm0_St (S : ST) (p : Nat) : g_St (o_Hm0 S p) = g_St S := rfl
theorem o_Hm0_Rt (S : ST) (p : Nat) : g_Rt (o_Hm0 S p) = g_Rt S := rfl
theorem o_Hm0_Sl (S : ST) (p : Nat) : g_Sl (o_Hm0 S p) = g_Sl S := rfl
theorem o_Hm0_Of (S : ST) (p : Nat) : g_Of (o_Hm0 S p) = g_Of S := rfl
theorem o_Hm0_Le (S : ST) (p : Nat) : g_Le (o_Hm0 S p) = g_Le S := rfl
theorem o_Hm0_Ss (S : ST) (p : Nat) : g_Ss (o_Hm0 S p) = g_Ss S := rfl
theorem o_Hm0_Ho (S : ST) (p : Nat) : g_Ho (o_Hm0 S p) = g_Ho S := rfl
theorem o_Hm0_Hs (S : ST) (p : Nat) : g_Hs (o_Hm0 S p) = g_Hs S := rfl
theorem o_Hm0_Hz (S : ST) (p : Nat) : g_Hz (o_Hm0 S p) = g_Hz S := rfl
theorem o_Hm0_Df (S : ST) (p : Nat) : g_Df (o_Hm0 S p) = g_Df S := rfl
theorem o_Hm0_Dl (S : ST) (p : Nat) : g_Dl (o_Hm0 S p) = g_Dl S := rfl
theorem Hm0_e (S : ST) (p : Nat) : s_Hm S (va_up (g_Hm S) p (upd (upd (g_Hm S p) 0 0) 1 0)) = o_Hm0 S p := rfl
theorem lose_down {S : ST} {p : Nat} (h : g_Rt S p = 0) : o_RmL (s_St (s_Sl S (upd (g_Sl S) p 0)) (upd (g_St S) p 2)) p = o_Down S p := by
  rw [← Down_e, upd_idv h, show s_Rt (s_St S (upd (g_St S) p 2)) (g_Rt S) = s_St S (upd (g_St S) p 2) from sg_Rt (s_St S (upd (g_St S) p 2)), ss_St_Sl]
theorem RmS_Rt (S : ST) (p : Nat) (v : FR) : o_RmS (s_Rt S v) p = s_Rt (o_RmS S p) v := by simp only [o_RmS, s_Ss, s_Le, s_Rt, g_Le, g_Ss]
theorem RmS_Sl (S : ST) (p : Nat) (v : FR) : o_RmS (s_Sl S v) p = s_Sl (o_RmS S p) v := by simp only [o_RmS, s_Ss, s_Le, s_Sl, g_Le, g_Ss]
theorem Mark_Rt (S : ST) (p : Nat) (v : FR) : o_Mark (s_Rt S v) p = s_Rt (o_Mark S p) v := by simp only [o_Mark, s_Ss, s_Rt, g_Le, g_Ss]
theorem Mark_Sl (S : ST) (p : Nat) (v : FR) : o_Mark (s_Sl S v) p = s_Sl (o_Mark S p) v := by simp only [o_Mark, s_Ss, s_Sl, g_Le, g_Ss]
theorem Mark_e (S : ST) (p : Nat) : s_Ss S (va_up (g_Ss S) p (kMrk 0 (g_Le S p) 16 (g_Ss S p))) = o_Mark S p := rfl
theorem lose_help {S : ST} {p : Nat} (h : ¬ g_Gr S p = 0) : o_Mark (o_RmS (s_Rt (s_St (s_Sl S (upd (g_Sl S) p 0)) (upd (g_St S) p 1)) (upd (g_Rt S) p (g_T1 S))) p) p = o_Lose S p := by
  rw [o_Lose, if_neg h, ss_St_Sl, RmS_Rt, RmS_Sl, Mark_Rt, Mark_Sl]
theorem mrk_x {L : FR} {r : Nat} (h0 : 0 ≤ L r) {x : Int32} (h : (0 < L r ∧ x = 1) ∨ (L r ≤ 0 ∧ x = 0)) : x = if L r = 0 then 0 else 1 := by
  rcases h with ⟨a, b⟩ | ⟨a, b⟩
  · rw [if_neg (i32_pos a)]; exact b
  · rw [if_pos (i32_zero h0 (Int32.not_lt.mpr a))]; exact b
theorem Rs_f1 {S : ST} {i : Nat} (h : ¬ g_St (o_Rs S i).2 i = 0) : (o_Rs S i).1 = (o_Rs S (i + 1)).1 := by rw [Rs_f h]
theorem Rs_f2 {S : ST} {i : Nat} (h : ¬ g_St (o_Rs S i).2 i = 0) : o_Hm0 (o_Rs S i).2 i = (o_Rs S (i + 1)).2 := by rw [Rs_f h]
theorem Rs_t1 {S : ST} {i : Nat} (h : g_St (o_Rs S i).2 i = 0) : (o_Rs S i).1 + 1 = (o_Rs S (i + 1)).1 := by rw [Rs_t h]
theorem Rs_t2 {S : ST} {i : Nat} (h : g_St (o_Rs S i).2 i = 0) : o_Lose (o_Hm0 (o_Rs S i).2 i) i = (o_Rs S (i + 1)).2 := by rw [Rs_t h]
theorem Rs_0 (S : ST) : (o_Rs S 0).2 = S := rfl
theorem FT_0 {S : ST} {pv : Int32} (h : pv = 0) : s_Hz (s_Ho S (kSet (-6) 16 (g_Ho S))) (kMrk (-6) (kSet (-6) 16 (g_Ho S)) 16 (g_Hz S)) = o_FT S pv := by rw [o_FT, if_pos h]
theorem FT_1 {S : ST} {pv : Int32} (h : ¬ pv = 0) : s_Hz (s_Hs S (kSet 1 16 (g_Hs S))) (kMrk (-6) (g_Ho S) 16 (g_Hz S)) = o_FT S pv := by rw [o_FT, if_neg h]
theorem mW_FT1 (cI cZ : ClassId) (md : Nat → Nat) {S : ST} {pv : Int32} (h : ¬ pv = 0) : mW cI cZ md (s_Hz S (kMrk (-6) (g_Ho S) 16 (g_Hz S))) = mW cI cZ md (o_FT S pv) := by
  rw [← FT_1 h, ← ss_Hs_Hz, mW_Hs]
theorem Rst_2 (S : ST) (pv : Int32) : o_Chk (s_Dl (s_Df (o_FT (o_Rs S (g_N S)).2 pv) 1) (g_T3 S)) = (o_Rst S pv).2 := rfl
theorem Rst_1 (S : ST) (pv : Int32) : (o_Rs S (g_N S)).1 = (o_Rst S pv).1 := rfl
theorem Meet_1 {S : ST} {p : Nat} (h : g_St S p = 1) : s_St (s_Sl (s_Rt S (upd (g_Rt S) p 0)) (upd (g_Sl S) p (g_T2 S))) (upd (g_St S) p 0) = o_Meet S p := by rw [o_Meet, if_pos h]
theorem Meet_0 {S : ST} {p : Nat} (h : ¬ g_St S p = 1) : s_St S (upd (g_St S) p 0) = o_Meet S p := by rw [o_Meet, if_neg h]
theorem Rc1_t {S : ST} {p : Nat} (h : ¬ g_Df S = 0) : o_Meet S p = u_Rc1 S p := by rw [u_Rc1, if_neg h]
theorem Rc1_f {S : ST} {p : Nat} (h : g_Df S = 0) : o_ERes (o_SA (o_Meet S p) 16) p = u_Rc1 S p := by rw [u_Rc1, if_pos h]
theorem Ds1_t {S : ST} {p : Nat} (h : ¬ g_Df S = 0) : o_Down S p = u_Ds1 S p := by rw [u_Ds1, if_neg h]
theorem Ds1_f {S : ST} {p : Nat} (h : g_Df S = 0) : o_SA (o_Down S p) 16 = u_Ds1 S p := by rw [u_Ds1, if_pos h]
theorem inv_Rc1 {S : ST} (h : Inv S) {p : Nat} (hp : p < g_N S) : Inv (u_Rc1 S p) := by
  unfold u_Rc1
  split
  · exact inv_ERes (inv_SA (inv_Meet h hp) 16) (by rw [o_SA_N, o_Meet_N]; exact hp)
  · exact inv_Meet h hp
theorem inv_Ds1 {S : ST} (h : Inv S) {p : Nat} (hp : p < g_N S) : Inv (u_Ds1 S p) := by
  unfold u_Ds1
  split
  · exact inv_SA (inv_Down h hp) 16
  · exact inv_Down h hp
theorem Rc1_Of (S : ST) (p : Nat) : g_Of (u_Rc1 S p) = g_Of S := by
  unfold u_Rc1
  split
  · exact (o_ERes_Of _ p).trans ((o_SA_Of _ 16).trans (o_Meet_Of S p))
  · exact o_Meet_Of S p
theorem Mk_e (S : ST) (p t : Nat) : s_Hm S (va_up (g_Hm S) p (upd (g_Hm S p) t 1)) = u_Mk S p t := rfl
theorem CDa_0 {S : ST} {p : Nat} (h : ¬ 0 < g_Rt S p) : o_CDa S p = (0, S) := by rw [o_CDa, if_neg h]
theorem CDa_1 {S : ST} {p : Nat} (h : 0 < g_Rt S p) (h1 : ¬ g_Rt S p - 1 = 0) : o_CDa S p = (0, s_Rt S (upd (g_Rt S) p (g_Rt S p - 1))) := by rw [o_CDa, if_pos h, if_neg h1]
theorem CDa_2 {S : ST} {p : Nat} (h : 0 < g_Rt S p) (h1 : g_Rt S p - 1 = 0) : o_CDa S p = (kCnt (nz (g_Le S p)) 16, o_Down S p) := by rw [o_CDa, if_pos h, if_pos h1]
theorem CDb_0 {S : ST} {p : Nat} (h : ¬ 0 < g_Sl S p) : o_CDb S p = (0, S) := by rw [o_CDb, if_neg h]
theorem CDb_1 {S : ST} {p : Nat} (h : 0 < g_Sl S p) (h1 : ¬ g_Sl S p - 1 = 0) : o_CDb S p = (0, s_Sl S (upd (g_Sl S) p (g_Sl S p - 1))) := by rw [o_CDb, if_pos h, if_neg h1]
theorem CDb_2 {S : ST} {p : Nat} (h : 0 < g_Sl S p) (h1 : g_Sl S p - 1 = 0) : o_CDb S p = (kCnt (nz (g_Ss S p)) 16, o_RmS (s_Sl S (upd (g_Sl S) p (g_Sl S p - 1))) p) := by rw [o_CDb, if_pos h, if_pos h1]
theorem CD_1 (S : ST) (p : Nat) : (o_CDa S p).1 + (o_CDb (o_CDa S p).2 p).1 = (o_CD S p).1 := rfl
theorem CD_2 (S : ST) (p : Nat) : (o_CDb (o_CDa S p).2 p).2 = (o_CD S p).2 := rfl
theorem age_down {S : ST} {p : Nat} (h : g_Rt S p - 1 = 0) (hs : g_Sl S p = 0) : o_RmL (s_St (s_Rt S (upd (g_Rt S) p (g_Rt S p - 1))) (upd (g_St S) p 2)) p = o_Down S p := by
  rw [← Down_e, h, upd_idv hs, show s_Sl (s_Rt (s_St S (upd (g_St S) p 2)) (upd (g_Rt S) p 0)) (g_Sl S) = s_Rt (s_St S (upd (g_St S) p 2)) (upd (g_Rt S) p 0) from sg_Sl (s_Rt (s_St S (upd (g_St S) p 2)) (upd (g_Rt S) p 0)), ss_St_Rt]
theorem Dl1_t {S : ST} (h : 0 < g_Dl S) : s_Dl S (g_Dl S - 1) = o_Dl1 S := by rw [o_Dl1, if_pos h]
theorem Dl1_f {S : ST} (h : ¬ 0 < g_Dl S) : s_Dl S (g_Dl S) = o_Dl1 S := by rw [o_Dl1, if_neg h]; exact sg_Dl S
theorem okK_nat {x : Int32} (h : okK x) : ∃ m, m ≤ 100 ∧ x = nI m := nI_of2 (M := 100) (n := 100) rfl (fun z => h.1 (Int32.lt_trans z (by decide))) (Int32.not_lt.mp h.2)
theorem CDs_0 (S : ST) : (o_CDs S 0).2 = S := rfl
theorem Tk_0 (S : ST) : (o_Tk S 0).2 = S := rfl
theorem N5 {n : Nat} (hn : n ≤ 5) : nI n = 5 ↔ n = 5 := nI_eq (b := 5) (by omega) (by decide)
theorem New_e (S : ST) (g : Int32) : s_N (s_St (s_Gr S (upd (g_Gr S) (g_N S) g)) (upd (g_St S) (g_N S) 0)) (g_N S + 1) = u_New S g := rfl
theorem nar_b {g : Int32} (h : g = 0 ∨ g = 1) : vp_nar .boolean g = g := by
  rcases h with rfl | rfl <;> decide
def lpf (S : ST) (a : Nat) : Int32 := o_Lp S (a / 16) + kCnt (p_Lp S (a / 16)) (a % 16)
theorem lpf_e (S : ST) (n : Nat) : lpf S (16 * n) = o_Lp S n := by
  rw [lpf, Nat.mul_div_cancel_left n (by decide), Nat.mul_mod_right]
  exact Int32.add_zero _
theorem lpf_s (S : ST) (a : Nat) : lpf S (a + 1) = lpf S a + (if p_Lp S (a / 16) (a % 16) = true then 1 else 0) := by
  have key : o_Lp S (a / 16) + kCnt (p_Lp S (a / 16)) (a % 16 + 1) = lpf S a + (if p_Lp S (a / 16) (a % 16) = true then 1 else 0) := by
    unfold lpf
    simp only [kCnt]
    split
    · rw [Int32.add_assoc]
    · rw [Int32.add_zero]
  rw [← key]
  by_cases h : a % 16 = 15
  · have e1 : (a + 1) / 16 = a / 16 + 1 := by omega
    have e2 : (a + 1) % 16 = 0 := by omega
    rw [lpf, e1, e2, h]
    exact Int32.add_zero _
  · have e1 : (a + 1) / 16 = a / 16 := by omega
    have e2 : (a + 1) % 16 = a % 16 + 1 := by omega
    rw [lpf, e1, e2]

theorem RmS_row1 (S : ST) (p : Nat) (a b c : FR) : g_Le (o_RmS (s_Rt (s_St (s_Sl S a) b) c) p) p = kCut (nz (g_Ss S p)) 16 (g_Le S p) := va_up_self _ _ _
theorem RmS_row2 (S : ST) (p : Nat) (a b c : FR) : g_Ss (o_RmS (s_Rt (s_St (s_Sl S a) b) c) p) p = kCut (nz (g_Ss S p)) 16 (g_Ss S p) := va_up_self _ _ _


set_option maxRecDepth 100000 in
set_option maxHeartbeats 4000000 in
theorem c_X2_losesSession (l : Launch) (D : va_G) (cI cZ cP : ClassId) (md : Nat → Nat) (S : ST) (p9 : Nat) (hI : Inv S) (hp9 : p9 < g_N S) (hst : g_St S p9 = 0) : MM l yX2_losesSession wsX2_losesSession ({ frames := 1, cells := 0, slots := 0, locals := 24 }) D (kTy cI cZ cP) [.ref (md 0), .int (nI p9)] (mW cI cZ md S) (none) (mW cI cZ md (o_Lose S p9)) := by
  refine MM.ofW (cc := cX2_losesSession) (maxL := 3) (ret := none) (by decide) rfl (Nat.le_of_ble_eq_true rfl) ?_
  intro p e s m below meth c ls A hx hb hr hlk hml hts hown hK hN hP hD hS hAe hl
  have hown : s.vm.findClass RX2 = some m.cls := hown
  have hi2 : ∀ w ∈ wsX20, w ∈ wsX2_losesSession := fun w h => List.mem_cons_of_mem _ (List.mem_append_right _ h)
  have hl : lv_has ls 3 [(0, .ref (md 0)), (1, .int (nI p9))] := hl
  have hn : g_N S ≤ 5 := hI.1
  refine lv_aload_n hx hb dX2_losesSession_0 rfl (lv_at hl 0 rfl) ?_
  refine va_get (D := D) (ci := 2) (v := .ref (md 4)) (C := RX2) (T := TX2) (N := 16) hx hb hts hi2 hown hK hP 0 (mO _ _ _ _) rfl 7 (by decide) (hts (.fieldLink RX2 30 "GracefulRestartModel" "staleTimerOf" "[I") (List.mem_of_getElem? (i := 1) rfl)) (fun _ h9 => h9) (mV_7 _ _) dX2_losesSession_1 ?_
  refine lv_iload_n hx hb dX2_losesSession_4 rfl (lv_at hl 1 rfl) ?_
  refine lv_iconst (v := 0) hx hb dX2_losesSession_5 (by decide) ?_
  refine k_iast (k := p9) hx hb hK hP hD hS 4 0 (mG_Sl _ _ _ _) rfl rfl (by omega) (by decide) (W1 := (mW cI cZ md (s_Sl S (upd (g_Sl S) p9 0)))) (mS_Sl _ _ _ _ _) dX2_losesSession_6 (fun H locs hP hD hS => ?_)
  refine lv_aload_n hx hb dX2_losesSession_7 rfl (lv_at hl 0 rfl) ?_
  refine va_get (D := D) (ci := 2) (v := .ref (md 1)) (C := RX2) (T := TX2) (N := 16) hx hb hts hi2 hown hK hP 0 (mO _ _ _ _) rfl 4 (by decide) (hts (.fieldLink RX2 19 "GracefulRestartModel" "isGraceful" "[Z") (List.mem_of_getElem? (i := 2) rfl)) (fun _ h9 => h9) (mV_4 _ _) dX2_losesSession_8 ?_
  refine lv_iload_n hx hb dX2_losesSession_11 rfl (lv_at hl 1 rfl) ?_
  refine k_zald (k := p9) hx hb hK hP 1 1 (mG_Gr _ _ _ _) rfl rfl (by omega) (by decide) dX2_losesSession_12 ?_
  refine k_top (y := (g_Gr S) p9) (congrFun (gs_Gr_Sl _ _) p9) ?_
  refine lv_if_ne (tgt := 31) hx hb dX2_losesSession_13 (by decide) (fun c_13 => ?_) (fun c_13 => ?_)
  · refine lv_aload_n hx hb dX2_losesSession_31 rfl (lv_at hl 0 rfl) ?_
    refine va_get (D := D) (ci := 2) (v := .ref (md 2)) (C := RX2) (T := TX2) (N := 16) hx hb hts hi2 hown hK hP 0 (mO _ _ _ _) rfl 5 (by decide) (hts (.fieldLink RX2 23 "GracefulRestartModel" "stateOf" "[I") (List.mem_of_getElem? (i := 3) rfl)) (fun _ h9 => h9) (mV_5 _ _) dX2_losesSession_32 ?_
    refine lv_iload_n hx hb dX2_losesSession_35 rfl (lv_at hl 1 rfl) ?_
    refine lv_iconst (v := 1) hx hb dX2_losesSession_36 (by decide) ?_
    refine k_iast (k := p9) hx hb hK hP hD hS 2 0 (mG_St _ _ _ _) rfl rfl (by omega) (by decide) (W1 := (mW cI cZ md (s_St (s_Sl S (upd (g_Sl S) p9 0)) (upd (g_St S) p9 1)))) (by rw [show g_St (s_Sl S (upd (g_Sl S) p9 0)) = g_St S from (gs_St_Sl _ _)]; exact mS_St _ _ _ _ _) dX2_losesSession_37 (fun H locs hP hD hS => ?_)
    refine lv_aload_n hx hb dX2_losesSession_38 rfl (lv_at hl 0 rfl) ?_
    refine va_get (D := D) (ci := 2) (v := .ref (md 3)) (C := RX2) (T := TX2) (N := 16) hx hb hts hi2 hown hK hP 0 (mO _ _ _ _) rfl 6 (by decide) (hts (.fieldLink RX2 27 "GracefulRestartModel" "restartTimerOf" "[I") (List.mem_of_getElem? (i := 4) rfl)) (fun _ h9 => h9) (mV_6 _ _) dX2_losesSession_39 ?_
    refine lv_iload_n hx hb dX2_losesSession_42 rfl (lv_at hl 1 rfl) ?_
    refine lv_aload_n hx hb dX2_losesSession_43 rfl (lv_at hl 0 rfl) ?_
    refine va_get (D := D) (ci := 2) (v := .int (g_T1 (s_St (s_Sl S (upd (g_Sl S) p9 0)) (upd (g_St S) p9 1)))) (C := RX2) (T := TX2) (N := 16) hx hb hts hi2 hown hK hP 0 (mO _ _ _ _) rfl 0 (by decide) (hts (.fieldLink RX2 7 "GracefulRestartModel" "restartTime" "I") (List.mem_of_getElem? (i := 5) rfl)) (fun _ h9 => h9) (mV_T1 _ _) dX2_losesSession_44 ?_
    refine k_top (y := g_T1 S) ((gs_T1_St _ _).trans (gs_T1_Sl _ _)) ?_
    refine k_iast (k := p9) hx hb hK hP hD hS 3 0 (mG_Rt _ _ _ _) rfl rfl (by omega) (by decide) (W1 := (mW cI cZ md (s_Rt (s_St (s_Sl S (upd (g_Sl S) p9 0)) (upd (g_St S) p9 1)) (upd (g_Rt S) p9 (g_T1 S))))) (by rw [show g_Rt (s_St (s_Sl S (upd (g_Sl S) p9 0)) (upd (g_St S) p9 1)) = g_Rt S from ((gs_Rt_St _ _).trans (gs_Rt_Sl _ _))]; exact mS_Rt _ _ _ _ _) dX2_losesSession_47 (fun H locs hP hD hS => ?_)
    refine lv_aload_n hx hb dX2_losesSession_48 rfl (lv_at hl 0 rfl) ?_
    refine lv_iload_n hx hb dX2_losesSession_49 rfl (lv_at hl 1 rfl) ?_
    refine lv_iconst (v := 1) hx hb dX2_losesSession_50 (by decide) ?_
    refine kV (As := [.int (nI p9), .int 1]) (rest := []) (Wc := (mW cI cZ md (s_Rt (s_St (s_Sl S (upd (g_Sl S) p9 0)) (upd (g_St S) p9 1)) (upd (g_Rt S) p9 (g_T1 S))))) (Wc1 := (mW cI cZ md (o_RmS (s_Rt (s_St (s_Sl S (upd (g_Sl S) p9 0)) (upd (g_St S) p9 1)) (upd (g_Rt S) p9 (g_T1 S))) p9))) (Wd1 := (mW cI cZ md (o_RmS (s_Rt (s_St (s_Sl S (upd (g_Sl S) p9 0)) (upd (g_St S) p9 1)) (upd (g_Rt S) p9 (g_T1 S))) p9))) (o := some (.int (kCnt (nz (g_Ss (s_Rt (s_St (s_Sl S (upd (g_Sl S) p9 0)) (upd (g_St S) p9 1)) (upd (g_Rt S) p9 (g_T1 S))) p9)) 16))) ⟨hx, hb, hml, hown, hts⟩ (c_X2_forgets1 l D cI cZ cP md (s_Rt (s_St (s_Sl S (upd (g_Sl S) p9 0)) (upd (g_St S) p9 1)) (upd (g_Rt S) p9 (g_T1 S))) p9 (by omega) (by rw [show g_Le (s_Rt (s_St (s_Sl S (upd (g_Sl S) p9 0)) (upd (g_St S) p9 1)) (upd (g_Rt S) p9 (g_T1 S))) = g_Le S from ((gs_Le_Rt _ _).trans ((gs_Le_St _ _).trans (gs_Le_Sl _ _))), show g_Ss (s_Rt (s_St (s_Sl S (upd (g_Sl S) p9 0)) (upd (g_St S) p9 1)) (upd (g_Rt S) p9 (g_T1 S))) = g_Ss S from ((gs_Ss_Rt _ _).trans ((gs_Ss_St _ _).trans (gs_Ss_Sl _ _)))]; exact hI.2.1 p9)) (cwV 2 hts gX2_losesSession_X2_forgets rfl rfl rfl (by decide +kernel) ⟨Nat.le_of_ble_eq_true rfl, Nat.le_of_ble_eq_true rfl⟩) hK hN hP hD hS (fun j => j) (fun _ _ h => h) (fun _ _ _ _ h => h) (mAdr _ _ _ _ _) (fun k q h => Or.inl ⟨k, h⟩) 0 2 rfl rfl (mO _ _ _ _) rfl hl.1 rfl (Nat.le_of_ble_eq_true rfl) ⟨Nat.zero_le _, Nat.zero_le _⟩ dX2_losesSession_51 (fun H locs hP hD hS => ?_)
    refine lv_pop hx hb dX2_losesSession_54 rfl ?_
    have hrw9 : rowOk (g_Le (o_RmS (s_Rt (s_St (s_Sl S (upd (g_Sl S) p9 0)) (upd (g_St S) p9 1)) (upd (g_Rt S) p9 (g_T1 S))) p9) p9) (g_Ss (o_RmS (s_Rt (s_St (s_Sl S (upd (g_Sl S) p9 0)) (upd (g_St S) p9 1)) (upd (g_Rt S) p9 (g_T1 S))) p9) p9) := by
      rw [RmS_row1, RmS_row2]
      exact rowOk_cutS (hI.2.1 p9) 16
    refine lv_bipush (v := 16) hx hb dX2_losesSession_55 (by decide) ?_
    refine lv_iload_n hx hb dX2_losesSession_57 rfl (lv_at hl 1 rfl) ?_
    refine lv_imul hx hb dX2_losesSession_58 ?_
    refine k_top (nx16 p9) ?_
    refine lv_istore_n (lv' := [(2, .int (nI (16 * p9))), (0, .ref (md 0)), (1, .int (nI p9))]) hx hb dX2_losesSession_59 rfl hl (by decide) rfl (fun ls hl => ?_)
    have lp60 : ∀ (n9 i : Nat), i + n9 = 16 → ∀ (H : Heap) (locs : List Loc) (ls : Array Slot), va_P D vwCl (mW cI cZ md (s_Ss (o_RmS (s_Rt (s_St (s_Sl S (upd (g_Sl S) p9 0)) (upd (g_St S) p9 1)) (upd (g_Rt S) p9 (g_T1 S))) p9) (va_up (g_Ss (o_RmS (s_Rt (s_St (s_Sl S (upd (g_Sl S) p9 0)) (upd (g_St S) p9 1)) (upd (g_Rt S) p9 (g_T1 S))) p9)) p9 (kMrk 0 (g_Le (o_RmS (s_Rt (s_St (s_Sl S (upd (g_Sl S) p9 0)) (upd (g_St S) p9 1)) (upd (g_Rt S) p9 (g_T1 S))) p9) p9) i (g_Ss (o_RmS (s_Rt (s_St (s_Sl S (upd (g_Sl S) p9 0)) (upd (g_St S) p9 1)) (upd (g_Rt S) p9 (g_T1 S))) p9) p9))))) H → va_D A (mW cI cZ md (s_Ss (o_RmS (s_Rt (s_St (s_Sl S (upd (g_Sl S) p9 0)) (upd (g_St S) p9 1)) (upd (g_Rt S) p9 (g_T1 S))) p9) (va_up (g_Ss (o_RmS (s_Rt (s_St (s_Sl S (upd (g_Sl S) p9 0)) (upd (g_St S) p9 1)) (upd (g_Rt S) p9 (g_T1 S))) p9)) p9 (kMrk 0 (g_Le (o_RmS (s_Rt (s_St (s_Sl S (upd (g_Sl S) p9 0)) (upd (g_St S) p9 1)) (upd (g_Rt S) p9 (g_T1 S))) p9) p9) i (g_Ss (o_RmS (s_Rt (s_St (s_Sl S (upd (g_Sl S) p9 0)) (upd (g_St S) p9 1)) (upd (g_Rt S) p9 (g_T1 S))) p9) p9))))) → va_S A s.heap H locs → lv_has ls 3 [(0, .ref (md 0)), (1, .int (nI p9)), (2, .int (nI (16 * p9 + i)))] → W p l e (headSpec wsX2_losesSession ({ frames := 1, cells := 0, slots := 0, locals := 24 })).room s m ([.ref (md 0), .int (nI p9)] : List Value).toArray below meth c H locs 0 0 (MQ below (kPost D (mW cI cZ md S) (mW cI cZ md (o_Lose S p9)) (none)) ([.ref (md 0), .int (nI p9)] : List Value).toArray s 0 0 (kA (mW cI cZ md S))) (F0 m 60 ls []) := by
      intro n9
      induction n9 with
      | zero =>
        intro i hi9 H locs ls hP hD hS hl
        have hi8 : i = 16 := by omega
        subst hi8
        refine lv_iload_n hx hb dX2_losesSession_60 rfl (lv_at hl 2 rfl) ?_
        refine lv_bipush (v := 16) hx hb dX2_losesSession_61 (by decide) ?_
        refine lv_iload_n hx hb dX2_losesSession_63 rfl (lv_at hl 1 rfl) ?_
        refine lv_iconst (v := 1) hx hb dX2_losesSession_64 (by decide) ?_
        refine lv_iadd hx hb dX2_losesSession_65 ?_
        refine k_top (nI_1 p9) ?_
        refine lv_imul hx hb dX2_losesSession_66 ?_
        refine k_top (nx16 (p9 + 1)) ?_
        refine lv_icmp_ge (tgt := 96) hx hb dX2_losesSession_67 (by decide) (fun _ => ?_) (fun c_ => absurd (nI_le (a := 16 * (p9 + 1)) (b := 16 * p9 + 16) (by omega) (by omega)) c_)
        exact k_vret hx hb hr hlk hP hS hAe (by rw [Mark_e, lose_help c_13]) dX2_losesSession_96
      | succ n9 ih =>
        intro i hi9 H locs ls hP hD hS hl
        have hlt : i < 16 := by omega
        refine lv_iload_n hx hb dX2_losesSession_60 rfl (lv_at hl 2 rfl) ?_
        refine lv_bipush (v := 16) hx hb dX2_losesSession_61 (by decide) ?_
        refine lv_iload_n hx hb dX2_losesSession_63 rfl (lv_at hl 1 rfl) ?_
        refine lv_iconst (v := 1) hx hb dX2_losesSession_64 (by decide) ?_
        refine lv_iadd hx hb dX2_losesSession_65 ?_
        refine k_top (nI_1 p9) ?_
        refine lv_imul hx hb dX2_losesSession_66 ?_
        refine k_top (nx16 (p9 + 1)) ?_
        refine lv_icmp_ge (tgt := 96) hx hb dX2_losesSession_67 (by decide) (fun c_ => absurd c_ (nI_ge (a := 16 * p9 + i) (b := 16 * (p9 + 1)) (by omega) (by omega))) (fun _ => ?_)
        refine lv_aload_n hx hb dX2_losesSession_70 rfl (lv_at hl 0 rfl) ?_
        refine va_get (D := D) (ci := 2) (v := .ref (md 8)) (C := RX2) (T := TX2) (N := 16) hx hb hts hi2 hown hK hP 0 (mO _ _ _ _) rfl 11 (by decide) (hts (.fieldLink RX2 42 "GracefulRestartModel" "isStaleAt" "[Z") (List.mem_of_getElem? (i := 6) rfl)) (fun _ h9 => h9) (mV_11 _ _) dX2_losesSession_71 ?_
        refine lv_iload_n hx hb dX2_losesSession_74 rfl (lv_at hl 2 rfl) ?_
        refine lv_aload_n hx hb dX2_losesSession_75 rfl (lv_at hl 0 rfl) ?_
        refine va_get (D := D) (ci := 2) (v := .ref (md 7)) (C := RX2) (T := TX2) (N := 16) hx hb hts hi2 hown hK hP 0 (mO _ _ _ _) rfl 10 (by decide) (hts (.fieldLink RX2 39 "GracefulRestartModel" "learned" "[I") (List.mem_of_getElem? (i := 7) rfl)) (fun _ h9 => h9) (mV_10 _ _) dX2_losesSession_76 ?_
        refine lv_iload_n hx hb dX2_losesSession_79 rfl (lv_at hl 2 rfl) ?_
        refine k_iald (k := 16 * p9 + i) hx hb hK hP 7 0 (mG_Le _ _ _ _) rfl rfl (by omega) (by decide) dX2_losesSession_80 ?_
        refine k_top (y := (g_Le (o_RmS (s_Rt (s_St (s_Sl S (upd (g_Sl S) p9 0)) (upd (g_St S) p9 1)) (upd (g_Rt S) p9 (g_T1 S))) p9)) p9 i) ((fl_at 16 _ (p := p9) (r := i) (by omega)).trans (congrFun (congrFun (gs_Le_Ss _ _) p9) i)) ?_
        refine lv_if_le (tgt := 88) hx hb dX2_losesSession_81 (by decide) (fun c_81 => ?_) (fun c_81 => ?_)
        · refine lv_iconst (v := 0) hx hb dX2_losesSession_88 (by decide) ?_
          refine k_zast (k := 16 * p9 + i) hx hb hK hP hD hS 8 1 (mG_Ss _ _ _ _) rfl rfl (by omega) (by decide) (by decide) (W1 := (mW cI cZ md (s_Ss (o_RmS (s_Rt (s_St (s_Sl S (upd (g_Sl S) p9 0)) (upd (g_St S) p9 1)) (upd (g_Rt S) p9 (g_T1 S))) p9) (va_up (g_Ss (o_RmS (s_Rt (s_St (s_Sl S (upd (g_Sl S) p9 0)) (upd (g_St S) p9 1)) (upd (g_Rt S) p9 (g_T1 S))) p9)) p9 (kMrk 0 (g_Le (o_RmS (s_Rt (s_St (s_Sl S (upd (g_Sl S) p9 0)) (upd (g_St S) p9 1)) (upd (g_Rt S) p9 (g_T1 S))) p9) p9) (i + 1) (g_Ss (o_RmS (s_Rt (s_St (s_Sl S (upd (g_Sl S) p9 0)) (upd (g_St S) p9 1)) (upd (g_Rt S) p9 (g_T1 S))) p9) p9)))))) (by rw [show g_Ss (s_Ss (o_RmS (s_Rt (s_St (s_Sl S (upd (g_Sl S) p9 0)) (upd (g_St S) p9 1)) (upd (g_Rt S) p9 (g_T1 S))) p9) (va_up (g_Ss (o_RmS (s_Rt (s_St (s_Sl S (upd (g_Sl S) p9 0)) (upd (g_St S) p9 1)) (upd (g_Rt S) p9 (g_T1 S))) p9)) p9 (kMrk 0 (g_Le (o_RmS (s_Rt (s_St (s_Sl S (upd (g_Sl S) p9 0)) (upd (g_St S) p9 1)) (upd (g_Rt S) p9 (g_T1 S))) p9) p9) i (g_Ss (o_RmS (s_Rt (s_St (s_Sl S (upd (g_Sl S) p9 0)) (upd (g_St S) p9 1)) (upd (g_Rt S) p9 (g_T1 S))) p9) p9)))) = va_up (g_Ss (o_RmS (s_Rt (s_St (s_Sl S (upd (g_Sl S) p9 0)) (upd (g_St S) p9 1)) (upd (g_Rt S) p9 (g_T1 S))) p9)) p9 (kMrk 0 (g_Le (o_RmS (s_Rt (s_St (s_Sl S (upd (g_Sl S) p9 0)) (upd (g_St S) p9 1)) (upd (g_Rt S) p9 (g_T1 S))) p9) p9) i (g_Ss (o_RmS (s_Rt (s_St (s_Sl S (upd (g_Sl S) p9 0)) (upd (g_St S) p9 1)) (upd (g_Rt S) p9 (g_T1 S))) p9) p9)) from (gs_Ss_Ss _ _), fl_row 16 _ (p := p9) (i := i) (by omega) (kMrk_s 0 _ i _ (mrk_x (hrw9 i).1 (Or.inr ⟨c_81, rfl⟩))), mS_Ss, ss_Ss_Ss]) dX2_losesSession_89 (fun H locs hP hD hS => ?_)
          refine lv_iinc (v := nI (16 * p9 + i + 1)) (lv' := [(2, .int (nI (16 * p9 + i + 1))), (0, .ref (md 0)), (1, .int (nI p9))]) hx hb dX2_losesSession_90 hl (k := 2) rfl (nI_1 (16 * p9 + i)) (by decide) rfl (fun ls hl => ?_)
          refine lv_goto (tgt := 60) hx hb dX2_losesSession_93 (by decide) ?_
          exact ih (i + 1) (by omega) _ _ ls hP hD hS (lv_sub hl [1, 2, 0] rfl)
        · refine lv_iconst (v := 1) hx hb dX2_losesSession_84 (by decide) ?_
          refine lv_goto (tgt := 89) hx hb dX2_losesSession_85 (by decide) ?_
          refine k_zast (k := 16 * p9 + i) hx hb hK hP hD hS 8 1 (mG_Ss _ _ _ _) rfl rfl (by omega) (by decide) (by decide) (W1 := (mW cI cZ md (s_Ss (o_RmS (s_Rt (s_St (s_Sl S (upd (g_Sl S) p9 0)) (upd (g_St S) p9 1)) (upd (g_Rt S) p9 (g_T1 S))) p9) (va_up (g_Ss (o_RmS (s_Rt (s_St (s_Sl S (upd (g_Sl S) p9 0)) (upd (g_St S) p9 1)) (upd (g_Rt S) p9 (g_T1 S))) p9)) p9 (kMrk 0 (g_Le (o_RmS (s_Rt (s_St (s_Sl S (upd (g_Sl S) p9 0)) (upd (g_St S) p9 1)) (upd (g_Rt S) p9 (g_T1 S))) p9) p9) (i + 1) (g_Ss (o_RmS (s_Rt (s_St (s_Sl S (upd (g_Sl S) p9 0)) (upd (g_St S) p9 1)) (upd (g_Rt S) p9 (g_T1 S))) p9) p9)))))) (by rw [show g_Ss (s_Ss (o_RmS (s_Rt (s_St (s_Sl S (upd (g_Sl S) p9 0)) (upd (g_St S) p9 1)) (upd (g_Rt S) p9 (g_T1 S))) p9) (va_up (g_Ss (o_RmS (s_Rt (s_St (s_Sl S (upd (g_Sl S) p9 0)) (upd (g_St S) p9 1)) (upd (g_Rt S) p9 (g_T1 S))) p9)) p9 (kMrk 0 (g_Le (o_RmS (s_Rt (s_St (s_Sl S (upd (g_Sl S) p9 0)) (upd (g_St S) p9 1)) (upd (g_Rt S) p9 (g_T1 S))) p9) p9) i (g_Ss (o_RmS (s_Rt (s_St (s_Sl S (upd (g_Sl S) p9 0)) (upd (g_St S) p9 1)) (upd (g_Rt S) p9 (g_T1 S))) p9) p9)))) = va_up (g_Ss (o_RmS (s_Rt (s_St (s_Sl S (upd (g_Sl S) p9 0)) (upd (g_St S) p9 1)) (upd (g_Rt S) p9 (g_T1 S))) p9)) p9 (kMrk 0 (g_Le (o_RmS (s_Rt (s_St (s_Sl S (upd (g_Sl S) p9 0)) (upd (g_St S) p9 1)) (upd (g_Rt S) p9 (g_T1 S))) p9) p9) i (g_Ss (o_RmS (s_Rt (s_St (s_Sl S (upd (g_Sl S) p9 0)) (upd (g_St S) p9 1)) (upd (g_Rt S) p9 (g_T1 S))) p9) p9)) from (gs_Ss_Ss _ _), fl_row 16 _ (p := p9) (i := i) (by omega) (kMrk_s 0 _ i _ (mrk_x (hrw9 i).1 (Or.inl ⟨Int32.not_le.mp c_81, rfl⟩))), mS_Ss, ss_Ss_Ss]) dX2_losesSession_89 (fun H locs hP hD hS => ?_)
          refine lv_iinc (v := nI (16 * p9 + i + 1)) (lv' := [(2, .int (nI (16 * p9 + i + 1))), (0, .ref (md 0)), (1, .int (nI p9))]) hx hb dX2_losesSession_90 hl (k := 2) rfl (nI_1 (16 * p9 + i)) (by decide) rfl (fun ls hl => ?_)
          refine lv_goto (tgt := 60) hx hb dX2_losesSession_93 (by decide) ?_
          exact ih (i + 1) (by omega) _ _ ls hP hD hS (lv_sub hl [1, 2, 0] rfl)
    exact lp60 16 0 (by omega) _ _ ls (by rw [kMrk_0, va_up_id, sg_Ss]; exact hP) (by rw [kMrk_0, va_up_id, sg_Ss]; exact hD) hS (lv_sub hl [1, 2, 0] rfl)
  · refine lv_aload_n hx hb dX2_losesSession_16 rfl (lv_at hl 0 rfl) ?_
    refine va_get (D := D) (ci := 2) (v := .ref (md 2)) (C := RX2) (T := TX2) (N := 16) hx hb hts hi2 hown hK hP 0 (mO _ _ _ _) rfl 5 (by decide) (hts (.fieldLink RX2 23 "GracefulRestartModel" "stateOf" "[I") (List.mem_of_getElem? (i := 3) rfl)) (fun _ h9 => h9) (mV_5 _ _) dX2_losesSession_17 ?_
    refine lv_iload_n hx hb dX2_losesSession_20 rfl (lv_at hl 1 rfl) ?_
    refine lv_iconst (v := 2) hx hb dX2_losesSession_21 (by decide) ?_
    refine k_iast (k := p9) hx hb hK hP hD hS 2 0 (mG_St _ _ _ _) rfl rfl (by omega) (by decide) (W1 := (mW cI cZ md (s_St (s_Sl S (upd (g_Sl S) p9 0)) (upd (g_St S) p9 2)))) (by rw [show g_St (s_Sl S (upd (g_Sl S) p9 0)) = g_St S from (gs_St_Sl _ _)]; exact mS_St _ _ _ _ _) dX2_losesSession_22 (fun H locs hP hD hS => ?_)
    refine lv_aload_n hx hb dX2_losesSession_23 rfl (lv_at hl 0 rfl) ?_
    refine lv_iload_n hx hb dX2_losesSession_24 rfl (lv_at hl 1 rfl) ?_
    refine lv_iconst (v := 0) hx hb dX2_losesSession_25 (by decide) ?_
    refine kV (As := [.int (nI p9), .int 0]) (rest := []) (Wc := (mW cI cZ md (s_St (s_Sl S (upd (g_Sl S) p9 0)) (upd (g_St S) p9 2)))) (Wc1 := (mW cI cZ md (o_RmL (s_St (s_Sl S (upd (g_Sl S) p9 0)) (upd (g_St S) p9 2)) p9))) (Wd1 := (mW cI cZ md (o_RmL (s_St (s_Sl S (upd (g_Sl S) p9 0)) (upd (g_St S) p9 2)) p9))) (o := some (.int (kCnt (nz (g_Le (s_St (s_Sl S (upd (g_Sl S) p9 0)) (upd (g_St S) p9 2)) p9)) 16))) ⟨hx, hb, hml, hown, hts⟩ (c_X2_forgets0 l D cI cZ cP md (s_St (s_Sl S (upd (g_Sl S) p9 0)) (upd (g_St S) p9 2)) p9 (by omega) (by rw [show g_Le (s_St (s_Sl S (upd (g_Sl S) p9 0)) (upd (g_St S) p9 2)) = g_Le S from ((gs_Le_St _ _).trans (gs_Le_Sl _ _)), show g_Ss (s_St (s_Sl S (upd (g_Sl S) p9 0)) (upd (g_St S) p9 2)) = g_Ss S from ((gs_Ss_St _ _).trans (gs_Ss_Sl _ _))]; exact hI.2.1 p9)) (cwV 2 hts gX2_losesSession_X2_forgets rfl rfl rfl (by decide +kernel) ⟨Nat.le_of_ble_eq_true rfl, Nat.le_of_ble_eq_true rfl⟩) hK hN hP hD hS (fun j => j) (fun _ _ h => h) (fun _ _ _ _ h => h) (mAdr _ _ _ _ _) (fun k q h => Or.inl ⟨k, h⟩) 0 2 rfl rfl (mO _ _ _ _) rfl hl.1 rfl (Nat.le_of_ble_eq_true rfl) ⟨Nat.zero_le _, Nat.zero_le _⟩ dX2_losesSession_26 (fun H locs hP hD hS => ?_)
    refine lv_pop hx hb dX2_losesSession_29 rfl ?_
    exact k_vret hx hb hr hlk hP hS hAe (by rw [lose_down (hI.2.2.2.1 p9 (by rw [hst]; decide)), o_Lose, if_pos c_13]) dX2_losesSession_30

set_option maxRecDepth 100000 in
set_option maxHeartbeats 4000000 in
theorem c_X2_restart (l : Launch) (D : va_G) (cI cZ cP : ClassId) (md : Nat → Nat) (S : ST) (pv : Int32) (hI : Inv S) : MM l yX2_restart wsX2_restart ({ frames := 4, cells := 0, slots := 0, locals := 89 }) D (kTy cI cZ cP) [.ref (md 0), .int pv] (mW cI cZ md S) (some (.int (o_Rst S pv).1)) (mW cI cZ md (o_Rst S pv).2) := by
  refine MM.ofW (cc := cX2_restart) (maxL := 4) (ret := (some .int)) (by decide) rfl (Nat.le_of_ble_eq_true rfl) ?_
  intro p e s m below meth c ls A hx hb hr hlk hml hts hown hK hN hP hD hS hAe hl
  have hown : s.vm.findClass RX2 = some m.cls := hown
  have hi2 : ∀ w ∈ wsX20, w ∈ wsX2_restart := fun w h => List.mem_cons_of_mem _ (List.mem_append_right _ h)
  have hl : lv_has ls 4 [(0, .ref (md 0)), (1, .int pv)] := hl
  have hn : g_N S ≤ 5 := hI.1
  refine lv_iconst (v := 0) hx hb dX2_restart_0 (by decide) ?_
  refine lv_istore_n (lv' := [(2, .int 0), (0, .ref (md 0)), (1, .int pv)]) hx hb dX2_restart_1 rfl hl (by decide) rfl (fun ls hl => ?_)
  refine lv_iconst (v := 0) hx hb dX2_restart_2 (by decide) ?_
  refine lv_istore_n (lv' := [(3, .int 0), (2, .int 0), (0, .ref (md 0)), (1, .int pv)]) hx hb dX2_restart_3 rfl hl (by decide) rfl (fun ls hl => ?_)
  have lp4 : ∀ (n9 i : Nat), i + n9 = g_N S → ∀ (H : Heap) (locs : List Loc) (ls : Array Slot), va_P D vwCl (mW cI cZ md ((o_Rs S i).2)) H → va_D A (mW cI cZ md ((o_Rs S i).2)) → va_S A s.heap H locs → lv_has ls 4 [(0, .ref (md 0)), (1, .int pv), (2, .int ((o_Rs S i).1)), (3, .int (nI i))] → W p l e (headSpec wsX2_restart ({ frames := 4, cells := 0, slots := 0, locals := 89 })).room s m ([.ref (md 0), .int pv] : List Value).toArray below meth c H locs 0 0 (MQ below (kPost D (mW cI cZ md S) (mW cI cZ md (o_Rst S pv).2) (some (.int (o_Rst S pv).1))) ([.ref (md 0), .int pv] : List Value).toArray s 0 0 (kA (mW cI cZ md S))) (F0 m 4 ls []) := by
    intro n9
    induction n9 with
    | zero =>
      intro i hi9 H locs ls hP hD hS hl
      have hi8 : i = g_N S := by omega
      subst hi8
      refine lv_iload_n hx hb dX2_restart_4 rfl (lv_at hl 3 rfl) ?_
      refine lv_aload_n hx hb dX2_restart_5 rfl (lv_at hl 0 rfl) ?_
      refine va_get (D := D) (ci := 2) (v := .int (nI (g_N ((o_Rs S (g_N S)).2)))) (C := RX2) (T := TX2) (N := 16) hx hb hts hi2 hown hK hP 0 (mO _ _ _ _) rfl 3 (by decide) (hts (.fieldLink RX2 55 "GracefulRestartModel" "peers" "I") (List.mem_of_getElem? (i := 1) rfl)) (fun _ h9 => h9) (mV_N _ _) dX2_restart_6 ?_
      refine k_top (y := nI (g_N S)) (congrArg nI (o_Rs_N _ _)) ?_
      refine lv_icmp_ge (tgt := 55) hx hb dX2_restart_9 (by decide) (fun _ => ?_) (fun c_ => absurd (Int32.le_refl _) c_)
      by_cases hpv : pv = 0
      · refine lv_iconst (v := 0) hx hb dX2_restart_55 (by decide) ?_
        refine lv_istore_n (lv' := [(3, .int 0), (0, .ref (md 0)), (1, .int pv), (2, .int ((o_Rs S (g_N S)).1))]) hx hb dX2_restart_56 rfl hl (by decide) rfl (fun ls hl => ?_)
        have lp57 : ∀ (n9 i : Nat), i + n9 = 16 → ∀ (H : Heap) (locs : List Loc) (ls : Array Slot), va_P D vwCl (mW cI cZ md (s_Hz (s_Ho ((o_Rs S (g_N S)).2) (kSet (-6) i (g_Ho (o_Rs S (g_N S)).2))) (kMrk (-6) (kSet (-6) 16 (g_Ho (o_Rs S (g_N S)).2)) i (g_Hz (o_Rs S (g_N S)).2)))) H → va_D A (mW cI cZ md (s_Hz (s_Ho ((o_Rs S (g_N S)).2) (kSet (-6) i (g_Ho (o_Rs S (g_N S)).2))) (kMrk (-6) (kSet (-6) 16 (g_Ho (o_Rs S (g_N S)).2)) i (g_Hz (o_Rs S (g_N S)).2)))) → va_S A s.heap H locs → lv_has ls 4 [(0, .ref (md 0)), (1, .int pv), (2, .int ((o_Rs S (g_N S)).1)), (3, .int (nI i))] → W p l e (headSpec wsX2_restart ({ frames := 4, cells := 0, slots := 0, locals := 89 })).room s m ([.ref (md 0), .int pv] : List Value).toArray below meth c H locs 0 0 (MQ below (kPost D (mW cI cZ md S) (mW cI cZ md (o_Rst S pv).2) (some (.int (o_Rst S pv).1))) ([.ref (md 0), .int pv] : List Value).toArray s 0 0 (kA (mW cI cZ md S))) (F0 m 57 ls []) := by
          intro n9
          induction n9 with
          | zero =>
            intro i hi9 H locs ls hP hD hS hl
            have hi8 : i = 16 := by omega
            subst hi8
            refine lv_iload_n hx hb dX2_restart_57 rfl (lv_at hl 3 rfl) ?_
            refine lv_bipush (v := 16) hx hb dX2_restart_58 (by decide) ?_
            refine lv_icmp_ge (tgt := 112) hx hb dX2_restart_60 (by decide) (fun _ => ?_) (fun c_ => absurd (by decide) c_)
            rw [FT_0 hpv] at hP hD
            refine lv_aload_n hx hb dX2_restart_112 rfl (lv_at hl 0 rfl) ?_
            refine lv_iconst (v := 1) hx hb dX2_restart_113 (by decide) ?_
            refine k_put (D := D) (ci := 2) (v := .int 1) (ty := .boolean) (C := RX2) (T := TX2) (N := 16) hx hb hts hi2 tyX2 tyX2_ok nmX2 hown hK hP hD hS 0 (mO _ _ _ _) rfl 14 (by decide) (hts (.fieldLink RX2 70 "GracefulRestartModel" "isDeferringNow" "Z") (List.mem_of_getElem? (i := 6) rfl)) (fun _ h9 => h9) rfl (by decide +kernel) rfl rfl (Nat.le_of_ble_eq_true rfl) (W1 := (mW cI cZ md (s_Df (o_FT (o_Rs S (g_N S)).2 pv) 1))) (mP_Df _ _ _ _ _) dX2_restart_114 (fun H locs hP hD hS => ?_)
            refine lv_aload_n hx hb dX2_restart_117 rfl (lv_at hl 0 rfl) ?_
            refine lv_aload_n hx hb dX2_restart_118 rfl (lv_at hl 0 rfl) ?_
            refine va_get (D := D) (ci := 2) (v := .int (g_T3 (s_Df (o_FT (o_Rs S (g_N S)).2 pv) 1))) (C := RX2) (T := TX2) (N := 16) hx hb hts hi2 hown hK hP 0 (mO _ _ _ _) rfl 2 (by decide) (hts (.fieldLink RX2 16 "GracefulRestartModel" "deferralTime" "I") (List.mem_of_getElem? (i := 7) rfl)) (fun _ h9 => h9) (mV_T3 _ _) dX2_restart_119 ?_
            refine k_top (y := g_T3 S) ((gs_T3_Df _ _).trans ((o_FT_T3 _ _).trans (o_Rs_T3 _ _))) ?_
            refine k_put (D := D) (ci := 2) (v := .int (g_T3 S)) (ty := .int) (C := RX2) (T := TX2) (N := 16) hx hb hts hi2 tyX2 tyX2_ok nmX2 hown hK hP hD hS 0 (mO _ _ _ _) rfl 15 (by decide) (hts (.fieldLink RX2 78 "GracefulRestartModel" "deferralTimerNow" "I") (List.mem_of_getElem? (i := 8) rfl)) (fun _ h9 => h9) rfl (by decide +kernel) rfl rfl (Nat.le_of_ble_eq_true rfl) (W1 := (mW cI cZ md (s_Dl (s_Df (o_FT (o_Rs S (g_N S)).2 pv) 1) (g_T3 S)))) (mP_Dl _ _ _ _ _) dX2_restart_122 (fun H locs hP hD hS => ?_)
            refine lv_aload_n hx hb dX2_restart_125 rfl (lv_at hl 0 rfl) ?_
            refine kV (As := []) (rest := []) (Wc := (mW cI cZ md (s_Dl (s_Df (o_FT (o_Rs S (g_N S)).2 pv) 1) (g_T3 S)))) (Wc1 := (mW cI cZ md (o_Chk (s_Dl (s_Df (o_FT (o_Rs S (g_N S)).2 pv) 1) (g_T3 S))))) (Wd1 := (mW cI cZ md (o_Chk (s_Dl (s_Df (o_FT (o_Rs S (g_N S)).2 pv) 1) (g_T3 S))))) (o := none) ⟨hx, hb, hml, hown, hts⟩ (c_X2_checksDeferral l D cI cZ cP md (s_Dl (s_Df (o_FT (o_Rs S (g_N S)).2 pv) 1) (g_T3 S)) (inv_Dl (inv_Df (inv_FT (inv_Rs hI (Nat.le_refl _)) pv) 1) hI.2.2.2.2.2.1.2)) (cwV 0 hts gX2_restart_X2_checksDeferral rfl rfl rfl (by decide +kernel) ⟨Nat.le_of_ble_eq_true rfl, Nat.le_of_ble_eq_true rfl⟩) hK hN hP hD hS (fun j => j) (fun _ _ h => h) (fun _ _ _ _ h => h) (mAdr _ _ _ _ _) (fun k q h => Or.inl ⟨k, h⟩) 0 2 rfl rfl (mO _ _ _ _) rfl hl.1 rfl (Nat.le_of_ble_eq_true rfl) ⟨Nat.zero_le _, Nat.zero_le _⟩ dX2_restart_126 (fun H locs hP hD hS => ?_)
            refine lv_iload_n hx hb dX2_restart_129 rfl (lv_at hl 2 rfl) ?_
            exact k_iret hx hb hr hlk hP hS hAe rfl (congrArg (mW cI cZ md) (Rst_2 S pv)) dX2_restart_130
          | succ n9 ih =>
            intro i hi9 H locs ls hP hD hS hl
            have hlt : i < 16 := by omega
            refine lv_iload_n hx hb dX2_restart_57 rfl (lv_at hl 3 rfl) ?_
            refine lv_bipush (v := 16) hx hb dX2_restart_58 (by decide) ?_
            refine lv_icmp_ge (tgt := 112) hx hb dX2_restart_60 (by decide) (fun c_ => absurd c_ (nI_ge (a := i) (b := 16) hlt (by decide))) (fun _ => ?_)
            refine lv_aload_n hx hb dX2_restart_63 rfl (lv_at hl 0 rfl) ?_
            refine va_get (D := D) (ci := 2) (v := .ref (md 9)) (C := RX2) (T := TX2) (N := 16) hx hb hts hi2 hown hK hP 0 (mO _ _ _ _) rfl 12 (by decide) (hts (.fieldLink RX2 45 "GracefulRestartModel" "hopOf" "[I") (List.mem_of_getElem? (i := 4) rfl)) (fun _ h9 => h9) (mV_12 _ _) dX2_restart_64 ?_
            refine lv_iload_n hx hb dX2_restart_67 rfl (lv_at hl 3 rfl) ?_
            refine lv_iload_n hx hb dX2_restart_68 rfl (lv_at hl 1 rfl) ?_
            refine lv_if_eq (tgt := 81) hx hb dX2_restart_69 (by decide) (fun _ => ?_) (fun c_ => absurd hpv c_)
            refine lv_bipush (v := -6) hx hb dX2_restart_81 (by decide) ?_
            refine k_iast (k := i) hx hb hK hP hD hS 9 0 (mG_Ho _ _ _ _) rfl rfl (by omega) (by decide) (W1 := (mW cI cZ md (s_Hz (s_Ho ((o_Rs S (g_N S)).2) (kSet (-6) (i + 1) (g_Ho (o_Rs S (g_N S)).2))) (kMrk (-6) (kSet (-6) 16 (g_Ho (o_Rs S (g_N S)).2)) i (g_Hz (o_Rs S (g_N S)).2))))) (by rw [show g_Ho (s_Hz (s_Ho ((o_Rs S (g_N S)).2) (kSet (-6) i (g_Ho (o_Rs S (g_N S)).2))) (kMrk (-6) (kSet (-6) 16 (g_Ho (o_Rs S (g_N S)).2)) i (g_Hz (o_Rs S (g_N S)).2))) = kSet (-6) i (g_Ho (o_Rs S (g_N S)).2) from ((gs_Ho_Hz _ _).trans (gs_Ho_Ho _ _)), kSet_s, mS_Ho, ss_Ho_Hz, ss_Ho_Ho]) dX2_restart_83 (fun H locs hP hD hS => ?_)
            refine lv_aload_n hx hb dX2_restart_84 rfl (lv_at hl 0 rfl) ?_
            refine va_get (D := D) (ci := 2) (v := .ref (md 10)) (C := RX2) (T := TX2) (N := 16) hx hb hts hi2 hown hK hP 0 (mO _ _ _ _) rfl 13 (by decide) (hts (.fieldLink RX2 48 "GracefulRestartModel" "isStaleHop" "[Z") (List.mem_of_getElem? (i := 5) rfl)) (fun _ h9 => h9) (mV_13 _ _) dX2_restart_85 ?_
            refine lv_iload_n hx hb dX2_restart_88 rfl (lv_at hl 3 rfl) ?_
            refine lv_aload_n hx hb dX2_restart_89 rfl (lv_at hl 0 rfl) ?_
            refine va_get (D := D) (ci := 2) (v := .ref (md 9)) (C := RX2) (T := TX2) (N := 16) hx hb hts hi2 hown hK hP 0 (mO _ _ _ _) rfl 12 (by decide) (hts (.fieldLink RX2 45 "GracefulRestartModel" "hopOf" "[I") (List.mem_of_getElem? (i := 4) rfl)) (fun _ h9 => h9) (mV_12 _ _) dX2_restart_90 ?_
            refine lv_iload_n hx hb dX2_restart_93 rfl (lv_at hl 3 rfl) ?_
            refine k_iald (k := i) hx hb hK hP 9 0 (mG_Ho _ _ _ _) rfl rfl (by omega) (by decide) dX2_restart_94 ?_
            refine k_top (y := (kSet (-6) (i + 1) (g_Ho (o_Rs S (g_N S)).2)) i) (congrFun ((gs_Ho_Hz _ _).trans (gs_Ho_Ho _ _)) i) ?_
            refine k_top (y := -6) (by simp [kSet]) ?_
            refine lv_bipush (v := -6) hx hb dX2_restart_95 (by decide) ?_
            refine lv_icmp_eq (tgt := 104) hx hb dX2_restart_97 (by decide) (fun _ => ?_) (fun c_ => absurd (by decide) c_)
            refine lv_iconst (v := 0) hx hb dX2_restart_104 (by decide) ?_
            refine k_zast (k := i) hx hb hK hP hD hS 10 1 (mG_Hz _ _ _ _) rfl rfl (by omega) (by decide) (by decide) (W1 := (mW cI cZ md (s_Hz (s_Ho ((o_Rs S (g_N S)).2) (kSet (-6) (i + 1) (g_Ho (o_Rs S (g_N S)).2))) (kMrk (-6) (kSet (-6) 16 (g_Ho (o_Rs S (g_N S)).2)) (i + 1) (g_Hz (o_Rs S (g_N S)).2))))) (by rw [show g_Hz (s_Hz (s_Ho ((o_Rs S (g_N S)).2) (kSet (-6) (i + 1) (g_Ho (o_Rs S (g_N S)).2))) (kMrk (-6) (kSet (-6) 16 (g_Ho (o_Rs S (g_N S)).2)) i (g_Hz (o_Rs S (g_N S)).2))) = kMrk (-6) (kSet (-6) 16 (g_Ho (o_Rs S (g_N S)).2)) i (g_Hz (o_Rs S (g_N S)).2) from (gs_Hz_Hz _ _), kMrk_s (-6) _ i _ (by simp [kSet, hlt]), mS_Hz, ss_Hz_Hz]) dX2_restart_105 (fun H locs hP hD hS => ?_)
            refine lv_iinc (v := nI (i + 1)) (lv' := [(3, .int (nI (i + 1))), (0, .ref (md 0)), (1, .int pv), (2, .int ((o_Rs S (g_N S)).1))]) hx hb dX2_restart_106 hl (k := 3) rfl (nI_1 i) (by decide) rfl (fun ls hl => ?_)
            refine lv_goto (tgt := 57) hx hb dX2_restart_109 (by decide) ?_
            exact ih (i + 1) (by omega) _ _ ls hP hD hS (lv_sub hl [1, 2, 3, 0] rfl)
        exact lp57 16 0 (by omega) _ _ ls (by rw [kSet_0, kMrk_0, sg_Ho, sg_Hz]; exact hP) (by rw [kSet_0, kMrk_0, sg_Ho, sg_Hz]; exact hD) hS (lv_sub hl [1, 2, 3, 0] rfl)
      · refine lv_iconst (v := 0) hx hb dX2_restart_55 (by decide) ?_
        refine lv_istore_n (lv' := [(3, .int 0), (0, .ref (md 0)), (1, .int pv), (2, .int ((o_Rs S (g_N S)).1))]) hx hb dX2_restart_56 rfl hl (by decide) rfl (fun ls hl => ?_)
        have lp57 : ∀ (n9 i : Nat), i + n9 = 16 → ∀ (H : Heap) (locs : List Loc) (ls : Array Slot), va_P D vwCl (mW cI cZ md (s_Hz ((o_Rs S (g_N S)).2) (kMrk (-6) (g_Ho (o_Rs S (g_N S)).2) i (g_Hz (o_Rs S (g_N S)).2)))) H → va_D A (mW cI cZ md (s_Hz ((o_Rs S (g_N S)).2) (kMrk (-6) (g_Ho (o_Rs S (g_N S)).2) i (g_Hz (o_Rs S (g_N S)).2)))) → va_S A s.heap H locs → lv_has ls 4 [(0, .ref (md 0)), (1, .int pv), (2, .int ((o_Rs S (g_N S)).1)), (3, .int (nI i))] → W p l e (headSpec wsX2_restart ({ frames := 4, cells := 0, slots := 0, locals := 89 })).room s m ([.ref (md 0), .int pv] : List Value).toArray below meth c H locs 0 0 (MQ below (kPost D (mW cI cZ md S) (mW cI cZ md (o_Rst S pv).2) (some (.int (o_Rst S pv).1))) ([.ref (md 0), .int pv] : List Value).toArray s 0 0 (kA (mW cI cZ md S))) (F0 m 57 ls []) := by
          intro n9
          induction n9 with
          | zero =>
            intro i hi9 H locs ls hP hD hS hl
            have hi8 : i = 16 := by omega
            subst hi8
            refine lv_iload_n hx hb dX2_restart_57 rfl (lv_at hl 3 rfl) ?_
            refine lv_bipush (v := 16) hx hb dX2_restart_58 (by decide) ?_
            refine lv_icmp_ge (tgt := 112) hx hb dX2_restart_60 (by decide) (fun _ => ?_) (fun c_ => absurd (by decide) c_)
            rw [mW_FT1 cI cZ md hpv] at hP hD
            refine lv_aload_n hx hb dX2_restart_112 rfl (lv_at hl 0 rfl) ?_
            refine lv_iconst (v := 1) hx hb dX2_restart_113 (by decide) ?_
            refine k_put (D := D) (ci := 2) (v := .int 1) (ty := .boolean) (C := RX2) (T := TX2) (N := 16) hx hb hts hi2 tyX2 tyX2_ok nmX2 hown hK hP hD hS 0 (mO _ _ _ _) rfl 14 (by decide) (hts (.fieldLink RX2 70 "GracefulRestartModel" "isDeferringNow" "Z") (List.mem_of_getElem? (i := 6) rfl)) (fun _ h9 => h9) rfl (by decide +kernel) rfl rfl (Nat.le_of_ble_eq_true rfl) (W1 := (mW cI cZ md (s_Df (o_FT (o_Rs S (g_N S)).2 pv) 1))) (mP_Df _ _ _ _ _) dX2_restart_114 (fun H locs hP hD hS => ?_)
            refine lv_aload_n hx hb dX2_restart_117 rfl (lv_at hl 0 rfl) ?_
            refine lv_aload_n hx hb dX2_restart_118 rfl (lv_at hl 0 rfl) ?_
            refine va_get (D := D) (ci := 2) (v := .int (g_T3 (s_Df (o_FT (o_Rs S (g_N S)).2 pv) 1))) (C := RX2) (T := TX2) (N := 16) hx hb hts hi2 hown hK hP 0 (mO _ _ _ _) rfl 2 (by decide) (hts (.fieldLink RX2 16 "GracefulRestartModel" "deferralTime" "I") (List.mem_of_getElem? (i := 7) rfl)) (fun _ h9 => h9) (mV_T3 _ _) dX2_restart_119 ?_
            refine k_top (y := g_T3 S) ((gs_T3_Df _ _).trans ((o_FT_T3 _ _).trans (o_Rs_T3 _ _))) ?_
            refine k_put (D := D) (ci := 2) (v := .int (g_T3 S)) (ty := .int) (C := RX2) (T := TX2) (N := 16) hx hb hts hi2 tyX2 tyX2_ok nmX2 hown hK hP hD hS 0 (mO _ _ _ _) rfl 15 (by decide) (hts (.fieldLink RX2 78 "GracefulRestartModel" "deferralTimerNow" "I") (List.mem_of_getElem? (i := 8) rfl)) (fun _ h9 => h9) rfl (by decide +kernel) rfl rfl (Nat.le_of_ble_eq_true rfl) (W1 := (mW cI cZ md (s_Dl (s_Df (o_FT (o_Rs S (g_N S)).2 pv) 1) (g_T3 S)))) (mP_Dl _ _ _ _ _) dX2_restart_122 (fun H locs hP hD hS => ?_)
            refine lv_aload_n hx hb dX2_restart_125 rfl (lv_at hl 0 rfl) ?_
            refine kV (As := []) (rest := []) (Wc := (mW cI cZ md (s_Dl (s_Df (o_FT (o_Rs S (g_N S)).2 pv) 1) (g_T3 S)))) (Wc1 := (mW cI cZ md (o_Chk (s_Dl (s_Df (o_FT (o_Rs S (g_N S)).2 pv) 1) (g_T3 S))))) (Wd1 := (mW cI cZ md (o_Chk (s_Dl (s_Df (o_FT (o_Rs S (g_N S)).2 pv) 1) (g_T3 S))))) (o := none) ⟨hx, hb, hml, hown, hts⟩ (c_X2_checksDeferral l D cI cZ cP md (s_Dl (s_Df (o_FT (o_Rs S (g_N S)).2 pv) 1) (g_T3 S)) (inv_Dl (inv_Df (inv_FT (inv_Rs hI (Nat.le_refl _)) pv) 1) hI.2.2.2.2.2.1.2)) (cwV 0 hts gX2_restart_X2_checksDeferral rfl rfl rfl (by decide +kernel) ⟨Nat.le_of_ble_eq_true rfl, Nat.le_of_ble_eq_true rfl⟩) hK hN hP hD hS (fun j => j) (fun _ _ h => h) (fun _ _ _ _ h => h) (mAdr _ _ _ _ _) (fun k q h => Or.inl ⟨k, h⟩) 0 2 rfl rfl (mO _ _ _ _) rfl hl.1 rfl (Nat.le_of_ble_eq_true rfl) ⟨Nat.zero_le _, Nat.zero_le _⟩ dX2_restart_126 (fun H locs hP hD hS => ?_)
            refine lv_iload_n hx hb dX2_restart_129 rfl (lv_at hl 2 rfl) ?_
            exact k_iret hx hb hr hlk hP hS hAe rfl (congrArg (mW cI cZ md) (Rst_2 S pv)) dX2_restart_130
          | succ n9 ih =>
            intro i hi9 H locs ls hP hD hS hl
            have hlt : i < 16 := by omega
            refine lv_iload_n hx hb dX2_restart_57 rfl (lv_at hl 3 rfl) ?_
            refine lv_bipush (v := 16) hx hb dX2_restart_58 (by decide) ?_
            refine lv_icmp_ge (tgt := 112) hx hb dX2_restart_60 (by decide) (fun c_ => absurd c_ (nI_ge (a := i) (b := 16) hlt (by decide))) (fun _ => ?_)
            refine lv_aload_n hx hb dX2_restart_63 rfl (lv_at hl 0 rfl) ?_
            refine va_get (D := D) (ci := 2) (v := .ref (md 9)) (C := RX2) (T := TX2) (N := 16) hx hb hts hi2 hown hK hP 0 (mO _ _ _ _) rfl 12 (by decide) (hts (.fieldLink RX2 45 "GracefulRestartModel" "hopOf" "[I") (List.mem_of_getElem? (i := 4) rfl)) (fun _ h9 => h9) (mV_12 _ _) dX2_restart_64 ?_
            refine lv_iload_n hx hb dX2_restart_67 rfl (lv_at hl 3 rfl) ?_
            refine lv_iload_n hx hb dX2_restart_68 rfl (lv_at hl 1 rfl) ?_
            refine lv_if_eq (tgt := 81) hx hb dX2_restart_69 (by decide) (fun c_ => absurd c_ hpv) (fun _ => ?_)
            refine lv_aload_n hx hb dX2_restart_72 rfl (lv_at hl 0 rfl) ?_
            refine va_get (D := D) (ci := 2) (v := .ref (md 9)) (C := RX2) (T := TX2) (N := 16) hx hb hts hi2 hown hK hP 0 (mO _ _ _ _) rfl 12 (by decide) (hts (.fieldLink RX2 45 "GracefulRestartModel" "hopOf" "[I") (List.mem_of_getElem? (i := 4) rfl)) (fun _ h9 => h9) (mV_12 _ _) dX2_restart_73 ?_
            refine lv_iload_n hx hb dX2_restart_76 rfl (lv_at hl 3 rfl) ?_
            refine k_iald (k := i) hx hb hK hP 9 0 (mG_Ho _ _ _ _) rfl rfl (by omega) (by decide) dX2_restart_77 ?_
            refine k_top (y := (g_Ho ((o_Rs S (g_N S)).2)) i) (congrFun (gs_Ho_Hz _ _) i) ?_
            refine lv_goto (tgt := 83) hx hb dX2_restart_78 (by decide) ?_
            refine k_iast (k := i) hx hb hK hP hD hS 9 0 (mG_Ho _ _ _ _) rfl rfl (by omega) (by decide) (W1 := (mW cI cZ md (s_Hz ((o_Rs S (g_N S)).2) (kMrk (-6) (g_Ho (o_Rs S (g_N S)).2) i (g_Hz (o_Rs S (g_N S)).2))))) (by rw [show g_Ho (s_Hz ((o_Rs S (g_N S)).2) (kMrk (-6) (g_Ho (o_Rs S (g_N S)).2) i (g_Hz (o_Rs S (g_N S)).2))) = g_Ho ((o_Rs S (g_N S)).2) from (gs_Ho_Hz _ _), upd_id, mS_Ho, ss_Ho_Hz, sg_Ho]) dX2_restart_83 (fun H locs hP hD hS => ?_)
            refine lv_aload_n hx hb dX2_restart_84 rfl (lv_at hl 0 rfl) ?_
            refine va_get (D := D) (ci := 2) (v := .ref (md 10)) (C := RX2) (T := TX2) (N := 16) hx hb hts hi2 hown hK hP 0 (mO _ _ _ _) rfl 13 (by decide) (hts (.fieldLink RX2 48 "GracefulRestartModel" "isStaleHop" "[Z") (List.mem_of_getElem? (i := 5) rfl)) (fun _ h9 => h9) (mV_13 _ _) dX2_restart_85 ?_
            refine lv_iload_n hx hb dX2_restart_88 rfl (lv_at hl 3 rfl) ?_
            refine lv_aload_n hx hb dX2_restart_89 rfl (lv_at hl 0 rfl) ?_
            refine va_get (D := D) (ci := 2) (v := .ref (md 9)) (C := RX2) (T := TX2) (N := 16) hx hb hts hi2 hown hK hP 0 (mO _ _ _ _) rfl 12 (by decide) (hts (.fieldLink RX2 45 "GracefulRestartModel" "hopOf" "[I") (List.mem_of_getElem? (i := 4) rfl)) (fun _ h9 => h9) (mV_12 _ _) dX2_restart_90 ?_
            refine lv_iload_n hx hb dX2_restart_93 rfl (lv_at hl 3 rfl) ?_
            refine k_iald (k := i) hx hb hK hP 9 0 (mG_Ho _ _ _ _) rfl rfl (by omega) (by decide) dX2_restart_94 ?_
            refine k_top (y := (g_Ho ((o_Rs S (g_N S)).2)) i) (congrFun (gs_Ho_Hz _ _) i) ?_
            refine k_top (y := (g_Ho ((o_Rs S (g_N S)).2)) i) rfl ?_
            refine lv_bipush (v := -6) hx hb dX2_restart_95 (by decide) ?_
            refine lv_icmp_eq (tgt := 104) hx hb dX2_restart_97 (by decide) (fun c_97 => ?_) (fun c_97 => ?_)
            · refine lv_iconst (v := 0) hx hb dX2_restart_104 (by decide) ?_
              refine k_zast (k := i) hx hb hK hP hD hS 10 1 (mG_Hz _ _ _ _) rfl rfl (by omega) (by decide) (by decide) (W1 := (mW cI cZ md (s_Hz ((o_Rs S (g_N S)).2) (kMrk (-6) (g_Ho (o_Rs S (g_N S)).2) (i + 1) (g_Hz (o_Rs S (g_N S)).2))))) (by rw [show g_Hz (s_Hz ((o_Rs S (g_N S)).2) (kMrk (-6) (g_Ho (o_Rs S (g_N S)).2) i (g_Hz (o_Rs S (g_N S)).2))) = kMrk (-6) (g_Ho (o_Rs S (g_N S)).2) i (g_Hz (o_Rs S (g_N S)).2) from (gs_Hz_Hz _ _), kMrk_s (-6) _ i _ (by simp [c_97]), mS_Hz, ss_Hz_Hz]) dX2_restart_105 (fun H locs hP hD hS => ?_)
              refine lv_iinc (v := nI (i + 1)) (lv' := [(3, .int (nI (i + 1))), (0, .ref (md 0)), (1, .int pv), (2, .int ((o_Rs S (g_N S)).1))]) hx hb dX2_restart_106 hl (k := 3) rfl (nI_1 i) (by decide) rfl (fun ls hl => ?_)
              refine lv_goto (tgt := 57) hx hb dX2_restart_109 (by decide) ?_
              exact ih (i + 1) (by omega) _ _ ls hP hD hS (lv_sub hl [1, 2, 3, 0] rfl)
            · refine lv_iconst (v := 1) hx hb dX2_restart_100 (by decide) ?_
              refine lv_goto (tgt := 105) hx hb dX2_restart_101 (by decide) ?_
              refine k_zast (k := i) hx hb hK hP hD hS 10 1 (mG_Hz _ _ _ _) rfl rfl (by omega) (by decide) (by decide) (W1 := (mW cI cZ md (s_Hz ((o_Rs S (g_N S)).2) (kMrk (-6) (g_Ho (o_Rs S (g_N S)).2) (i + 1) (g_Hz (o_Rs S (g_N S)).2))))) (by rw [show g_Hz (s_Hz ((o_Rs S (g_N S)).2) (kMrk (-6) (g_Ho (o_Rs S (g_N S)).2) i (g_Hz (o_Rs S (g_N S)).2))) = kMrk (-6) (g_Ho (o_Rs S (g_N S)).2) i (g_Hz (o_Rs S (g_N S)).2) from (gs_Hz_Hz _ _), kMrk_s (-6) _ i _ (by simp [c_97]), mS_Hz, ss_Hz_Hz]) dX2_restart_105 (fun H locs hP hD hS => ?_)
              refine lv_iinc (v := nI (i + 1)) (lv' := [(3, .int (nI (i + 1))), (0, .ref (md 0)), (1, .int pv), (2, .int ((o_Rs S (g_N S)).1))]) hx hb dX2_restart_106 hl (k := 3) rfl (nI_1 i) (by decide) rfl (fun ls hl => ?_)
              refine lv_goto (tgt := 57) hx hb dX2_restart_109 (by decide) ?_
              exact ih (i + 1) (by omega) _ _ ls hP hD hS (lv_sub hl [1, 2, 3, 0] rfl)
        exact lp57 16 0 (by omega) _ _ ls (by rw [kMrk_0, sg_Hz]; exact hP) (by rw [kMrk_0, sg_Hz]; exact hD) hS (lv_sub hl [1, 2, 3, 0] rfl)
    | succ n9 ih =>
      intro i hi9 H locs ls hP hD hS hl
      have hlt : i < g_N S := by omega
      refine lv_iload_n hx hb dX2_restart_4 rfl (lv_at hl 3 rfl) ?_
      refine lv_aload_n hx hb dX2_restart_5 rfl (lv_at hl 0 rfl) ?_
      refine va_get (D := D) (ci := 2) (v := .int (nI (g_N ((o_Rs S i).2)))) (C := RX2) (T := TX2) (N := 16) hx hb hts hi2 hown hK hP 0 (mO _ _ _ _) rfl 3 (by decide) (hts (.fieldLink RX2 55 "GracefulRestartModel" "peers" "I") (List.mem_of_getElem? (i := 1) rfl)) (fun _ h9 => h9) (mV_N _ _) dX2_restart_6 ?_
      refine k_top (y := nI (g_N S)) (congrArg nI (o_Rs_N _ _)) ?_
      refine lv_icmp_ge (tgt := 55) hx hb dX2_restart_9 (by decide) (fun c_ => absurd c_ (nI_ge (a := i) (b := g_N S) hlt (by omega))) (fun _ => ?_)
      refine lv_aload_n hx hb dX2_restart_12 rfl (lv_at hl 0 rfl) ?_
      refine va_get (D := D) (ci := 2) (v := .ref (md 5)) (C := RX2) (T := TX2) (N := 16) hx hb hts hi2 hown hK hP 0 (mO _ _ _ _) rfl 8 (by decide) (hts (.fieldLink RX2 33 "GracefulRestartModel" "hasMarked" "[Z") (List.mem_of_getElem? (i := 2) rfl)) (fun _ h9 => h9) (mV_8 _ _) dX2_restart_13 ?_
      refine lv_iconst (v := 2) hx hb dX2_restart_16 (by decide) ?_
      refine lv_iload_n hx hb dX2_restart_17 rfl (lv_at hl 3 rfl) ?_
      refine lv_imul hx hb dX2_restart_18 ?_
      refine k_top (nx2 i) ?_
      refine lv_iconst (v := 0) hx hb dX2_restart_19 (by decide) ?_
      refine k_zast (k := 2 * i + 0) hx hb hK hP hD hS 5 1 (mG_Hm _ _ _ _) rfl rfl (by omega) (by decide) (by decide) (W1 := (mW cI cZ md (s_Hm ((o_Rs S i).2) (va_up (g_Hm ((o_Rs S i).2)) i (upd ((g_Hm ((o_Rs S i).2)) i) 0 0))))) (by rw [fl_up 2 _ (p := i) (r := 0) (by omega) _]; exact mS_Hm _ _ _ _ _) dX2_restart_20 (fun H locs hP hD hS => ?_)
      refine lv_aload_n hx hb dX2_restart_21 rfl (lv_at hl 0 rfl) ?_
      refine va_get (D := D) (ci := 2) (v := .ref (md 5)) (C := RX2) (T := TX2) (N := 16) hx hb hts hi2 hown hK hP 0 (mO _ _ _ _) rfl 8 (by decide) (hts (.fieldLink RX2 33 "GracefulRestartModel" "hasMarked" "[Z") (List.mem_of_getElem? (i := 2) rfl)) (fun _ h9 => h9) (mV_8 _ _) dX2_restart_22 ?_
      refine lv_iconst (v := 2) hx hb dX2_restart_25 (by decide) ?_
      refine lv_iload_n hx hb dX2_restart_26 rfl (lv_at hl 3 rfl) ?_
      refine lv_imul hx hb dX2_restart_27 ?_
      refine k_top (nx2 i) ?_
      refine lv_iconst (v := 1) hx hb dX2_restart_28 (by decide) ?_
      refine lv_iadd hx hb dX2_restart_29 ?_
      refine k_top (nI_1 (2 * i)) ?_
      refine lv_iconst (v := 0) hx hb dX2_restart_30 (by decide) ?_
      refine k_zast (k := 2 * i + 1) hx hb hK hP hD hS 5 1 (mG_Hm _ _ _ _) rfl rfl (by omega) (by decide) (by decide) (W1 := (mW cI cZ md (o_Hm0 (o_Rs S i).2 i))) (by rw [show g_Hm (s_Hm ((o_Rs S i).2) (va_up (g_Hm ((o_Rs S i).2)) i (upd ((g_Hm ((o_Rs S i).2)) i) 0 0))) = va_up (g_Hm ((o_Rs S i).2)) i (upd ((g_Hm ((o_Rs S i).2)) i) 0 0) from (gs_Hm_Hm _ _), fl_row 2 _ (p := i) (i := 1) (by omega) rfl, mS_Hm, ss_Hm_Hm, Hm0_e]) dX2_restart_31 (fun H locs hP hD hS => ?_)
      refine lv_aload_n hx hb dX2_restart_32 rfl (lv_at hl 0 rfl) ?_
      refine va_get (D := D) (ci := 2) (v := .ref (md 2)) (C := RX2) (T := TX2) (N := 16) hx hb hts hi2 hown hK hP 0 (mO _ _ _ _) rfl 5 (by decide) (hts (.fieldLink RX2 23 "GracefulRestartModel" "stateOf" "[I") (List.mem_of_getElem? (i := 3) rfl)) (fun _ h9 => h9) (mV_5 _ _) dX2_restart_33 ?_
      refine lv_iload_n hx hb dX2_restart_36 rfl (lv_at hl 3 rfl) ?_
      refine k_iald (k := i) hx hb hK hP 2 0 (mG_St _ _ _ _) rfl rfl (by omega) (by decide) dX2_restart_37 ?_
      refine k_top (y := (g_St (o_Rs S i).2) i) (congrFun (o_Hm0_St _ _) i) ?_
      refine lv_if_ne (tgt := 49) hx hb dX2_restart_38 (by decide) (fun c_38 => ?_) (fun c_38 => ?_)
      · refine lv_iinc (v := nI (i + 1)) (lv' := [(3, .int (nI (i + 1))), (0, .ref (md 0)), (1, .int pv), (2, .int ((o_Rs S i).1))]) hx hb dX2_restart_49 hl (k := 3) rfl (nI_1 i) (by decide) rfl (fun ls hl => ?_)
        refine lv_goto (tgt := 4) hx hb dX2_restart_52 (by decide) ?_
        rw [Rs_f2 c_38] at hP hD
        rw [Rs_f1 c_38] at hl
        exact ih (i + 1) (by omega) _ _ ls hP hD hS (lv_sub hl [1, 2, 3, 0] rfl)
      · refine lv_aload_n hx hb dX2_restart_41 rfl (lv_at hl 0 rfl) ?_
        refine lv_iload_n hx hb dX2_restart_42 rfl (lv_at hl 3 rfl) ?_
        refine kV (As := [.int (nI i)]) (rest := []) (Wc := (mW cI cZ md (o_Hm0 (o_Rs S i).2 i))) (Wc1 := (mW cI cZ md (o_Lose (o_Hm0 (o_Rs S i).2 i) i))) (Wd1 := (mW cI cZ md (o_Lose (o_Hm0 (o_Rs S i).2 i) i))) (o := none) ⟨hx, hb, hml, hown, hts⟩ (c_X2_losesSession l D cI cZ cP md (o_Hm0 (o_Rs S i).2 i) i (inv_hm (inv_Rs hI (by omega)) (by rw [o_Rs_N]; omega) _) (by rw [o_Hm0_N, o_Rs_N]; omega) ((congrFun (o_Hm0_St _ _) i).trans c_38)) (cwV 1 hts gX2_restart_X2_losesSession rfl rfl rfl (by decide +kernel) ⟨Nat.le_of_ble_eq_true rfl, Nat.le_of_ble_eq_true rfl⟩) hK hN hP hD hS (fun j => j) (fun _ _ h => h) (fun _ _ _ _ h => h) (mAdr _ _ _ _ _) (fun k q h => Or.inl ⟨k, h⟩) 0 2 rfl rfl (mO _ _ _ _) rfl hl.1 rfl (Nat.le_of_ble_eq_true rfl) ⟨Nat.zero_le _, Nat.zero_le _⟩ dX2_restart_43 (fun H locs hP hD hS => ?_)
        refine lv_iinc (v := (o_Rs S (i + 1)).1) (lv' := [(2, .int ((o_Rs S (i + 1)).1)), (0, .ref (md 0)), (1, .int pv), (3, .int (nI i))]) hx hb dX2_restart_46 hl (k := 2) rfl (Rs_t1 c_38) (by decide) rfl (fun ls hl => ?_)
        refine lv_iinc (v := nI (i + 1)) (lv' := [(3, .int (nI (i + 1))), (2, .int ((o_Rs S (i + 1)).1)), (0, .ref (md 0)), (1, .int pv)]) hx hb dX2_restart_49 hl (k := 3) rfl (nI_1 i) (by decide) rfl (fun ls hl => ?_)
        refine lv_goto (tgt := 4) hx hb dX2_restart_52 (by decide) ?_
        rw [Rs_t2 c_38] at hP hD
        exact ih (i + 1) (by omega) _ _ ls hP hD hS (lv_sub hl [2, 3, 1, 0] rfl)
  exact lp4 (g_N S) 0 (by omega) _ _ ls (by rw [Rs_0]; exact hP) (by rw [Rs_0]; exact hD) hS (lv_sub hl [2, 3, 1, 0] rfl)
end
