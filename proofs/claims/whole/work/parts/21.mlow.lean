set_option maxRecDepth 20000 in
set_option maxHeartbeats 1000000 in
theorem c_at (K : EK) (d : Nat) (D : DT) (s k t : Nat) : CF K mX6_at d [rR (14, 0, 0), rI (nI s), rI (nI k), rI (nI t)] D (some (rI (nI (256 * (8 * k + s) + t)))) D := by
  refine CF.of [some (rR (14, 0, 0)), some (rI (nI s)), some (rI (nI k)), some (rI (nI t))] (by decide) (leb rfl) rfl ?_
  refine RD.sipush (pc := 0) (v := 256) dX6_at_0 (by decide) ?_
  refine RD.bipush (pc := 3) (v := 8) dX6_at_3 (by decide) ?_
  refine RD.iload_n (pc := 5) dX6_at_5 rfl ?_
  refine RD.imul (pc := 6) dX6_at_6 ?_
  refine RD.eqI (pk_mul 8 k) ?_
  refine RD.iload_n (pc := 7) dX6_at_7 rfl ?_
  refine RD.iadd (pc := 8) dX6_at_8 ?_
  refine RD.eqI (nI_add (8 * k) s) ?_
  refine RD.imul (pc := 9) dX6_at_9 ?_
  refine RD.eqI (pk_mul 256 ((8 * k) + s)) ?_
  refine RD.iload_n (pc := 10) dX6_at_10 rfl ?_
  refine RD.iadd (pc := 11) dX6_at_11 ?_
  refine RD.eqI (nI_add (256 * ((8 * k) + s)) t) ?_
  refine RD.ireturn (pc := 12) dX6_at_12 rfl rfl ?_
  exact ⟨rfl, rfl⟩

set_option maxRecDepth 20000 in
set_option maxHeartbeats 2000000 in
theorem l_capab (K : EK) (d : Nat) {s q : Nat} (hs : s < 8) (hq : q < 2) (D : DT) : ∀ n k, k ≤ 256 → 257 ≤ k + n → RD K mX6_capabilities (d + 1) 5 [some (rR (14, 0, 0)), some (rI (nI s)), some (rI (nI q)), some (rI (nI (cntN (cpB D (8 * q + s)) k))), some (rI (nI k))] [] D (fun r0 D0 => r0 = some (rI (nI (cnF D (8 * q + s)))) ∧ D0 = D) := by
  intro n
  induction n with
  | zero =>
    intro k hk9 hn
    omega
  | succ n ih =>
    intro k hk9 hn
    refine RD.iload (pc := 5) dX6_capabilities_5 rfl ?_
    refine RD.sipush (pc := 7) (v := 256) dX6_capabilities_7 (by decide) ?_
    refine RD.icmp_ge (pc := 10) 43 dX6_capabilities_10 (by decide) (fun c10 => ?_) (fun c10 => ?_)
    · have hk8 : k = 256 := by
        have := (nI_leI (a := 256) (b := k) (by decide) (by omega)).mp c10
        omega
      subst hk8
      refine RD.iload_n (pc := 43) dX6_capabilities_43 rfl ?_
      refine RD.ireturn (pc := 44) dX6_capabilities_44 rfl rfl ?_
      exact ⟨rfl, rfl⟩
    · have hk : k < 256 := Nat.lt_of_not_le (fun h => c10 (nI_le h (by omega)))
      refine RD.iload_n (pc := 13) dX6_capabilities_13 rfl ?_
      refine RD.aload_n (pc := 14) dX6_capabilities_14 rfl ?_
      refine RD.getR (pc := 15) dX6_capabilities_15 flX6_33 ok14 rfl rfl ?_
      refine RD.aload_n (pc := 18) dX6_capabilities_18 rfl ?_
      refine RD.iload_n (pc := 19) dX6_capabilities_19 rfl ?_
      refine RD.iload_n (pc := 20) dX6_capabilities_20 rfl ?_
      refine RD.iload (pc := 21) dX6_capabilities_21 rfl ?_
      refine RD.cV3 (pc := 23) dX6_capabilities_23 mlX6_67 rfl ok14 rfl (c_at K _ D s q k) (leb rfl) ?_
      refine RD.zL (pc := 26) (n := 4096) (256 * (8 * q + s) + k) (v := D (15, 7, 0) (256 * (8 * q + s) + k)) rfl dX6_capabilities_26 (ok15 (by decide)) rfl rfl (by omega) (by decide) ?_
      refine RD.if_eq (pc := 27) 34 dX6_capabilities_27 (by decide) (fun c27 => ?_) (fun c27 => ?_)
      · refine RD.iconst (pc := 34) (v := 0) dX6_capabilities_34 (by decide) ?_
        refine RD.iadd (pc := 35) dX6_capabilities_35 ?_
        refine RD.eqI (nI_add (cntN (cpB D (8 * q + s)) k) 0) ?_
        refine RD.eqI (show _ = nI (cntN (cpB D (8 * q + s)) (k + 1)) by simp [cntN, cpB, c27]) ?_
        refine RD.istore_n (pc := 36) (ls' := [some (rR (14, 0, 0)), some (rI (nI s)), some (rI (nI q)), some (rI (nI (cntN (cpB D (8 * q + s)) (k + 1)))), some (rI (nI k))]) dX6_capabilities_36 (by decide) rfl ?_
        refine RD.iinc (pc := 37) (ls' := [some (rR (14, 0, 0)), some (rI (nI s)), some (rI (nI q)), some (rI (nI (cntN (cpB D (8 * q + s)) (k + 1)))), some (rI (nI (k + 1)))]) dX6_capabilities_37 rfl (nI_1 k) (by decide) rfl ?_
        refine RD.goto (pc := 40) 5 dX6_capabilities_40 (by decide) ?_
        exact ih (k + 1) (by omega) (by omega)
      · refine RD.iconst (pc := 30) (v := 1) dX6_capabilities_30 (by decide) ?_
        refine RD.goto (pc := 31) 35 dX6_capabilities_31 (by decide) ?_
        refine RD.iadd (pc := 35) dX6_capabilities_35 ?_
        refine RD.eqI (nI_add (cntN (cpB D (8 * q + s)) k) 1) ?_
        refine RD.eqI (show _ = nI (cntN (cpB D (8 * q + s)) (k + 1)) by simp [cntN, cpB, c27]) ?_
        refine RD.istore_n (pc := 36) (ls' := [some (rR (14, 0, 0)), some (rI (nI s)), some (rI (nI q)), some (rI (nI (cntN (cpB D (8 * q + s)) (k + 1)))), some (rI (nI k))]) dX6_capabilities_36 (by decide) rfl ?_
        refine RD.iinc (pc := 37) (ls' := [some (rR (14, 0, 0)), some (rI (nI s)), some (rI (nI q)), some (rI (nI (cntN (cpB D (8 * q + s)) (k + 1)))), some (rI (nI (k + 1)))]) dX6_capabilities_37 rfl (nI_1 k) (by decide) rfl ?_
        refine RD.goto (pc := 40) 5 dX6_capabilities_40 (by decide) ?_
        exact ih (k + 1) (by omega) (by omega)

set_option maxRecDepth 20000 in
set_option maxHeartbeats 2000000 in
theorem c_capab (K : EK) (d : Nat) {s q : Nat} (hs : s < 8) (hq : q < 2) (D : DT) : CF K mX6_capabilities (d + 1) [rR (14, 0, 0), rI (nI s), rI (nI q)] D (some (rI (nI (cnF D (8 * q + s))))) D := by
  refine CF.of [some (rR (14, 0, 0)), some (rI (nI s)), some (rI (nI q)), none, none] (by decide) (leb rfl) rfl ?_
  refine RD.iconst (pc := 0) (v := 0) dX6_capabilities_0 (by decide) ?_
  refine RD.istore_n (pc := 1) (ls' := [some (rR (14, 0, 0)), some (rI (nI s)), some (rI (nI q)), some (rI 0), none]) dX6_capabilities_1 (by decide) rfl ?_
  refine RD.iconst (pc := 2) (v := 0) dX6_capabilities_2 (by decide) ?_
  refine RD.istore (pc := 3) (ls' := [some (rR (14, 0, 0)), some (rI (nI s)), some (rI (nI q)), some (rI 0), some (rI 0)]) dX6_capabilities_3 (by decide) rfl ?_
  exact l_capab K d hs hq D 257 0 (by omega) (by omega)

def mTrap (D : DT) (s : Nat) (w : Int32) : DT := up (up D (15, 3, 0) s 3) (15, 4, 0) s w

set_option maxRecDepth 20000 in
set_option maxHeartbeats 1000000 in
theorem c_traps (K : EK) (d : Nat) {s : Nat} (hs : s < 8) (D : DT) (w : Int32) : CF K mX6_traps d [rR (14, 0, 0), rI (nI s), rI w] D (none) (mTrap D s w) := by
  refine CF.of [some (rR (14, 0, 0)), some (rI (nI s)), some (rI w)] (by decide) (leb rfl) rfl ?_
  refine RD.aload_n (pc := 0) dX6_traps_0 rfl ?_
  refine RD.getR (pc := 1) dX6_traps_1 flX6_19 ok14 rfl rfl ?_
  refine RD.iload_n (pc := 4) dX6_traps_4 rfl ?_
  refine RD.iconst (pc := 5) (v := 3) dX6_traps_5 (by decide) ?_
  refine RD.iast (pc := 6) (n := 8) s dX6_traps_6 (ok15 (by decide)) rfl rfl hs (by decide) ?_
  refine RD.aload_n (pc := 7) dX6_traps_7 rfl ?_
  refine RD.getR (pc := 8) dX6_traps_8 flX6_22 ok14 rfl rfl ?_
  refine RD.iload_n (pc := 11) dX6_traps_11 rfl ?_
  refine RD.iload_n (pc := 12) dX6_traps_12 rfl ?_
  refine RD.iast (pc := 13) (n := 8) s dX6_traps_13 (ok15 (by decide)) rfl rfl hs (by decide) ?_
  refine RD.ret (pc := 14) ⟨rfl, dX6_traps_14⟩ ?_
  exact ⟨rfl, rfl⟩

def comF (D : DT) (f t : Nat) (v kd : Int32) (z : Nat) : DT := up (up (up (up (lcp D f (72 + (8 * t + z)) 256) (15, 11, 0) (8 * t + z) v) (15, 12, 0) (8 * t + z) (nI f)) (15, 13, 0) (8 * t + z) kd) (15, 10, 0) t (nI (z + 1))

set_option maxRecDepth 20000 in
set_option maxHeartbeats 1000000 in
theorem c_comes (K : EK) (d : Nat) {f t z : Nat} (hf : f < 8) (ht : t < 8) (D : DT) (v kd : Int32) (hz8 : z < 8) (hz : D (15, 10, 0) t = nI z) (hB : ∀ u, u < 256 → isB (D (15, 6, 0) (256 * f + u))) : CF K mX6_comes (d + 1) [rR (14, 0, 0), rI (nI f), rI (nI t), rI v, rI kd] D (none) (comF D f t v kd z) := by
  refine CF.of [some (rR (14, 0, 0)), some (rI (nI f)), some (rI (nI t)), some (rI v), some (rI kd), none] (by decide) (leb rfl) rfl ?_
  refine RD.bipush (pc := 0) (v := 8) dX6_comes_0 (by decide) ?_
  refine RD.iload_n (pc := 2) dX6_comes_2 rfl ?_
  refine RD.imul (pc := 3) dX6_comes_3 ?_
  refine RD.eqI (pk_mul 8 t) ?_
  refine RD.aload_n (pc := 4) dX6_comes_4 rfl ?_
  refine RD.getR (pc := 5) dX6_comes_5 flX6_42 ok14 rfl rfl ?_
  refine RD.iload_n (pc := 8) dX6_comes_8 rfl ?_
  refine RD.iL (pc := 9) (n := 8) t (v := nI z) hz dX6_comes_9 (ok15 (by decide)) rfl rfl ht (by decide) ?_
  refine RD.iadd (pc := 10) dX6_comes_10 ?_
  refine RD.eqI (nI_add (8 * t) z) ?_
  refine RD.istore (pc := 11) (ls' := [some (rR (14, 0, 0)), some (rI (nI f)), some (rI (nI t)), some (rI v), some (rI kd), some (rI (nI ((8 * t) + z)))]) dX6_comes_11 (by decide) rfl ?_
  refine RD.aload_n (pc := 13) dX6_comes_13 rfl ?_
  refine RD.iload_n (pc := 14) dX6_comes_14 rfl ?_
  refine RD.bipush (pc := 15) (v := 72) dX6_comes_15 (by decide) ?_
  refine RD.iload (pc := 17) dX6_comes_17 rfl ?_
  refine RD.iadd (pc := 19) dX6_comes_19 ?_
  refine RD.eqI (nI_add 72 ((8 * t) + z)) ?_
  refine RD.cV2v (pc := 20) dX6_comes_20 mlX6_71 rfl ok14 rfl (c_copyLabel K _ (l := f) (m := (72 + ((8 * t) + z))) (by omega) (by omega) (by omega) D hB) (leb rfl) ?_
  refine RD.aload_n (pc := 23) dX6_comes_23 rfl ?_
  refine RD.getR (pc := 24) dX6_comes_24 flX6_45 ok14 rfl rfl ?_
  refine RD.iload (pc := 27) dX6_comes_27 rfl ?_
  refine RD.iload_n (pc := 29) dX6_comes_29 rfl ?_
  refine RD.iast (pc := 30) (n := 64) ((8 * t) + z) dX6_comes_30 (ok15 (by decide)) rfl rfl (by omega) (by decide) ?_
  refine RD.aload_n (pc := 31) dX6_comes_31 rfl ?_
  refine RD.getR (pc := 32) dX6_comes_32 flX6_48 ok14 rfl rfl ?_
  refine RD.iload (pc := 35) dX6_comes_35 rfl ?_
  refine RD.iload_n (pc := 37) dX6_comes_37 rfl ?_
  refine RD.iast (pc := 38) (n := 64) ((8 * t) + z) dX6_comes_38 (ok15 (by decide)) rfl rfl (by omega) (by decide) ?_
  refine RD.aload_n (pc := 39) dX6_comes_39 rfl ?_
  refine RD.getR (pc := 40) dX6_comes_40 flX6_51 ok14 rfl rfl ?_
  refine RD.iload (pc := 43) dX6_comes_43 rfl ?_
  refine RD.iload (pc := 45) dX6_comes_45 rfl ?_
  refine RD.iast (pc := 47) (n := 64) ((8 * t) + z) dX6_comes_47 (ok15 (by decide)) rfl rfl (by omega) (by decide) ?_
  refine RD.aload_n (pc := 48) dX6_comes_48 rfl ?_
  refine RD.getR (pc := 49) dX6_comes_49 flX6_42 ok14 rfl rfl ?_
  refine RD.iload_n (pc := 52) dX6_comes_52 rfl ?_
  refine RD.dup2 (pc := 53) dX6_comes_53 ?_
  refine RD.iL (pc := 54) (n := 8) t (v := nI z) (up_N (by simp) (up_N (by simp) (up_N (by simp) ((congrFun (lcp_o (by simp)) _).trans hz)))) dX6_comes_54 (ok15 (by decide)) rfl rfl ht (by decide) ?_
  refine RD.iconst (pc := 55) (v := 1) dX6_comes_55 (by decide) ?_
  refine RD.iadd (pc := 56) dX6_comes_56 ?_
  refine RD.eqI (nI_add z 1) ?_
  refine RD.iast (pc := 57) (n := 8) t dX6_comes_57 (ok15 (by decide)) rfl rfl ht (by decide) ?_
  refine RD.ret (pc := 58) ⟨rfl, dX6_comes_58⟩ ?_
  exact ⟨rfl, rfl⟩

set_option maxRecDepth 20000 in
set_option maxHeartbeats 1000000 in
theorem c_sends0 (K : EK) (d : Nat) {s : Nat} (hs : s < 8) (D : DT) (v kd : Int32) (t : Int32) (h : inR t 8 = false) : CF K mX6_sends (d + 2) [rR (14, 0, 0), rI (nI s), rI t, rI v, rI kd] D (none) D := by
  refine CF.of [some (rR (14, 0, 0)), some (rI (nI s)), some (rI t), some (rI v), some (rI kd)] (by decide) (leb rfl) rfl ?_
  refine RD.iload_n (pc := 0) dX6_sends_0 rfl ?_
  refine RD.cS1 (pc := 1) dX6_sends_1 mlX6_75 (c_mIsSlot K _ D t) (leb rfl) ?_
  refine RD.if_eq (pc := 4) 36 dX6_sends_4 (by decide) (fun c4 => ?_) (fun c4 => absurd (bIout h) c4)
  refine RD.ret (pc := 36) ⟨rfl, dX6_sends_36⟩ ?_
  exact ⟨rfl, rfl⟩

set_option maxRecDepth 20000 in
set_option maxHeartbeats 1000000 in
theorem c_sends1 (K : EK) (d : Nat) {s : Nat} (hs : s < 8) (D : DT) (v kd : Int32) {t z : Nat} (ht : t < 8) (hz : D (15, 10, 0) t = nI z) (hz8 : z < 8) (h : subM D s t = false) : CF K mX6_sends (d + 2) [rR (14, 0, 0), rI (nI s), rI (nI t), rI v, rI kd] D (none) D := by
  refine CF.of [some (rR (14, 0, 0)), some (rI (nI s)), some (rI (nI t)), some (rI v), some (rI kd)] (by decide) (leb rfl) rfl ?_
  refine RD.iload_n (pc := 0) dX6_sends_0 rfl ?_
  refine RD.cS1 (pc := 1) dX6_sends_1 mlX6_75 (c_mIsSlot K _ D (nI t)) (leb rfl) ?_
  refine RD.if_eq (pc := 4) 36 dX6_sends_4 (by decide) (fun c4 => absurd c4 (bIin (by decide) ht)) (fun c4 => ?_)
  refine RD.aload_n (pc := 7) dX6_sends_7 rfl ?_
  refine RD.getR (pc := 8) dX6_sends_8 flX6_42 ok14 rfl rfl ?_
  refine RD.iload_n (pc := 11) dX6_sends_11 rfl ?_
  refine RD.iL (pc := 12) (n := 8) t (v := nI z) hz dX6_sends_12 (ok15 (by decide)) rfl rfl ht (by decide) ?_
  refine RD.bipush (pc := 13) (v := 8) dX6_sends_13 (by decide) ?_
  refine RD.icmp_ge (pc := 15) 36 dX6_sends_15 (by decide) (fun c15 => absurd c15 (nI_ge (a := z) (b := 8) hz8 (by decide))) (fun c15 => ?_)
  refine RD.aload_n (pc := 18) dX6_sends_18 rfl ?_
  refine RD.iload_n (pc := 19) dX6_sends_19 rfl ?_
  refine RD.iload_n (pc := 20) dX6_sends_20 rfl ?_
  refine RD.cV2 (pc := 21) dX6_sends_21 mlX6_79 rfl ok14 rfl (c_isInLabel K _ (l := s) (m := t) (by omega) (by omega) D) (leb rfl) ?_
  refine RD.if_eq (pc := 24) 36 dX6_sends_24 (by decide) (fun c24 => ?_) (fun c24 => absurd (by rw [h]; rfl) c24)
  refine RD.ret (pc := 36) ⟨rfl, dX6_sends_36⟩ ?_
  exact ⟨rfl, rfl⟩

set_option maxRecDepth 20000 in
set_option maxHeartbeats 1000000 in
theorem c_sends2 (K : EK) (d : Nat) {s : Nat} (hs : s < 8) (D : DT) (v kd : Int32) {t z : Nat} (ht : t < 8) (hz : D (15, 10, 0) t = nI z) (hz8 : z = 8) : CF K mX6_sends (d + 2) [rR (14, 0, 0), rI (nI s), rI (nI t), rI v, rI kd] D (none) D := by
  refine CF.of [some (rR (14, 0, 0)), some (rI (nI s)), some (rI (nI t)), some (rI v), some (rI kd)] (by decide) (leb rfl) rfl ?_
  refine RD.iload_n (pc := 0) dX6_sends_0 rfl ?_
  refine RD.cS1 (pc := 1) dX6_sends_1 mlX6_75 (c_mIsSlot K _ D (nI t)) (leb rfl) ?_
  refine RD.if_eq (pc := 4) 36 dX6_sends_4 (by decide) (fun c4 => absurd c4 (bIin (by decide) ht)) (fun c4 => ?_)
  refine RD.aload_n (pc := 7) dX6_sends_7 rfl ?_
  refine RD.getR (pc := 8) dX6_sends_8 flX6_42 ok14 rfl rfl ?_
  refine RD.iload_n (pc := 11) dX6_sends_11 rfl ?_
  refine RD.iL (pc := 12) (n := 8) t (v := nI z) hz dX6_sends_12 (ok15 (by decide)) rfl rfl ht (by decide) ?_
  refine RD.bipush (pc := 13) (v := 8) dX6_sends_13 (by decide) ?_
  refine RD.icmp_ge (pc := 15) 36 dX6_sends_15 (by decide) (fun c15 => ?_) (fun c15 => absurd (by rw [hz8]; decide) c15)
  refine RD.ret (pc := 36) ⟨rfl, dX6_sends_36⟩ ?_
  exact ⟨rfl, rfl⟩

set_option maxRecDepth 20000 in
set_option maxHeartbeats 1000000 in
theorem c_sends3 (K : EK) (d : Nat) {s : Nat} (hs : s < 8) (D : DT) (v kd : Int32) {t z : Nat} (ht : t < 8) (hz : D (15, 10, 0) t = nI z) (hz8 : z < 8) (h : subM D s t = true) (hB : ∀ u, u < 256 → isB (D (15, 6, 0) (256 * s + u))) : CF K mX6_sends (d + 2) [rR (14, 0, 0), rI (nI s), rI (nI t), rI v, rI kd] D (none) (comF D s t v kd z) := by
  refine CF.of [some (rR (14, 0, 0)), some (rI (nI s)), some (rI (nI t)), some (rI v), some (rI kd)] (by decide) (leb rfl) rfl ?_
  refine RD.iload_n (pc := 0) dX6_sends_0 rfl ?_
  refine RD.cS1 (pc := 1) dX6_sends_1 mlX6_75 (c_mIsSlot K _ D (nI t)) (leb rfl) ?_
  refine RD.if_eq (pc := 4) 36 dX6_sends_4 (by decide) (fun c4 => absurd c4 (bIin (by decide) ht)) (fun c4 => ?_)
  refine RD.aload_n (pc := 7) dX6_sends_7 rfl ?_
  refine RD.getR (pc := 8) dX6_sends_8 flX6_42 ok14 rfl rfl ?_
  refine RD.iload_n (pc := 11) dX6_sends_11 rfl ?_
  refine RD.iL (pc := 12) (n := 8) t (v := nI z) hz dX6_sends_12 (ok15 (by decide)) rfl rfl ht (by decide) ?_
  refine RD.bipush (pc := 13) (v := 8) dX6_sends_13 (by decide) ?_
  refine RD.icmp_ge (pc := 15) 36 dX6_sends_15 (by decide) (fun c15 => absurd c15 (nI_ge (a := z) (b := 8) hz8 (by decide))) (fun c15 => ?_)
  refine RD.aload_n (pc := 18) dX6_sends_18 rfl ?_
  refine RD.iload_n (pc := 19) dX6_sends_19 rfl ?_
  refine RD.iload_n (pc := 20) dX6_sends_20 rfl ?_
  refine RD.cV2 (pc := 21) dX6_sends_21 mlX6_79 rfl ok14 rfl (c_isInLabel K _ (l := s) (m := t) (by omega) (by omega) D) (leb rfl) ?_
  refine RD.if_eq (pc := 24) 36 dX6_sends_24 (by decide) (fun c24 => absurd c24 (by rw [h]; decide)) (fun c24 => ?_)
  refine RD.aload_n (pc := 27) dX6_sends_27 rfl ?_
  refine RD.iload_n (pc := 28) dX6_sends_28 rfl ?_
  refine RD.iload_n (pc := 29) dX6_sends_29 rfl ?_
  refine RD.iload_n (pc := 30) dX6_sends_30 rfl ?_
  refine RD.iload (pc := 31) dX6_sends_31 rfl ?_
  refine RD.cV4v (pc := 33) dX6_sends_33 mlX6_83 rfl ok14 rfl (c_comes K _ hs ht D v kd hz8 hz hB) (leb rfl) ?_
  refine RD.ret (pc := 36) ⟨rfl, dX6_sends_36⟩ ?_
  exact ⟨rfl, rfl⟩


def sh1 (f : Nat → Int32) (lo w n : Nat) : Nat → Int32 := fun k => if lo ≤ k ∧ k < lo + n then f (k + w) else f k
/-- the first n places of the queue are those behind them -/
def shF (D : DT) (s n : Nat) : DT := fun a => if a = (15, 6, 0) then sh1 (D (15, 6, 0)) (256 * (72 + 8 * s)) 256 (256 * n) else if a = (15, 11, 0) then sh1 (D (15, 11, 0)) (8 * s) 1 n else if a = (15, 12, 0) then sh1 (D (15, 12, 0)) (8 * s) 1 n else if a = (15, 13, 0) then sh1 (D (15, 13, 0)) (8 * s) 1 n else D a
theorem sh1_0 (f : Nat → Int32) (lo w : Nat) : sh1 f lo w 0 = f := by
  funext k
  have : ¬ (lo ≤ k ∧ k < lo + 0) := by omega
  simp only [sh1, this, if_false]
theorem sh1_in {f : Nat → Int32} {lo w n k : Nat} (h : lo ≤ k ∧ k < lo + n) : sh1 f lo w n k = f (k + w) := by simp only [sh1, h, and_self, if_true]
theorem sh1_out {f : Nat → Int32} {lo w n k : Nat} (h : ¬ (lo ≤ k ∧ k < lo + n)) : sh1 f lo w n k = f k := by simp only [sh1, h, if_false]
theorem shF_0 (D : DT) (s : Nat) : shF D s 0 = D := by
  funext a
  unfold shF
  rw [Nat.mul_zero, sh1_0, sh1_0, sh1_0, sh1_0]
  by_cases h6 : a = (15, 6, 0)
  · simp [h6]
  · by_cases h1 : a = (15, 11, 0)
    · simp [h1]
    · by_cases h2 : a = (15, 12, 0)
      · simp [h2]
      · by_cases h3 : a = (15, 13, 0)
        · simp [h3]
        · simp [h6, h1, h2, h3]
theorem shF_6 {D : DT} {s n : Nat} : shF D s n (15, 6, 0) = sh1 (D (15, 6, 0)) (256 * (72 + 8 * s)) 256 (256 * n) := by simp [shF]
theorem shF_11 {D : DT} {s n : Nat} : shF D s n (15, 11, 0) = sh1 (D (15, 11, 0)) (8 * s) 1 n := by simp [shF]
theorem shF_12 {D : DT} {s n : Nat} : shF D s n (15, 12, 0) = sh1 (D (15, 12, 0)) (8 * s) 1 n := by simp [shF]
theorem shF_13 {D : DT} {s n : Nat} : shF D s n (15, 13, 0) = sh1 (D (15, 13, 0)) (8 * s) 1 n := by simp [shF]
theorem shF_o {D : DT} {s n : Nat} {a : AD} (h6 : a ≠ (15, 6, 0)) (h1 : a ≠ (15, 11, 0)) (h2 : a ≠ (15, 12, 0)) (h3 : a ≠ (15, 13, 0)) : shF D s n a = D a := by simp [shF, h6, h1, h2, h3]
theorem sh1_s {f : Nat → Int32} {lo n : Nat} {k : Nat} : (if k = lo + n then f (lo + n + 1) else sh1 f lo 1 n k) = sh1 f lo 1 (n + 1) k := by
  by_cases h : k = lo + n
  · subst h
    rw [if_pos rfl, sh1_in (by omega)]
  · rw [if_neg h]
    by_cases h2 : lo ≤ k ∧ k < lo + n
    · rw [sh1_in h2, sh1_in (by omega)]
    · rw [sh1_out h2, sh1_out (by omega)]
theorem shF_s {D : DT} {s n : Nat} : up (up (up (lcp (shF D s n) (72 + (8 * s + n) + 1) (72 + (8 * s + n)) 256) (15, 11, 0) (8 * s + n) (D (15, 11, 0) (8 * s + n + 1))) (15, 12, 0) (8 * s + n) (D (15, 12, 0) (8 * s + n + 1))) (15, 13, 0) (8 * s + n) (D (15, 13, 0) (8 * s + n + 1)) = shF D s (n + 1) := by
  funext a k
  simp only [up_at]
  by_cases h6 : a = (15, 6, 0)
  · subst h6
    simp only [Prod.mk.injEq, true_and, and_true, show ¬ (6 = 13) by decide, show ¬ (6 = 12) by decide, show ¬ (6 = 11) by decide, false_and, if_false]
    rw [shF_6]
    simp only [lcp, if_true]
    rw [shF_6]
    by_cases h : 256 * (72 + (8 * s + n)) ≤ k ∧ k < 256 * (72 + (8 * s + n)) + 256
    · rw [if_pos h, sh1_out (by omega), sh1_in (by omega)]
      congr 1
      omega
    · rw [if_neg h]
      by_cases h2 : 256 * (72 + 8 * s) ≤ k ∧ k < 256 * (72 + 8 * s) + 256 * n
      · rw [sh1_in h2, sh1_in (by omega)]
      · rw [sh1_out h2, sh1_out (by omega)]
  · by_cases h1 : a = (15, 11, 0)
    · subst h1
      simp only [Prod.mk.injEq, true_and, and_true, show ¬ (11 = 13) by decide, show ¬ (11 = 12) by decide, false_and, if_false]
      rw [lcp_o (by simp), shF_11, shF_11]
      exact sh1_s
    · by_cases h2 : a = (15, 12, 0)
      · subst h2
        simp only [Prod.mk.injEq, true_and, and_true, show ¬ (12 = 13) by decide, show ¬ (12 = 11) by decide, false_and, if_false]
        rw [lcp_o (by simp), shF_12, shF_12]
        exact sh1_s
      · by_cases h3 : a = (15, 13, 0)
        · subst h3
          simp only [Prod.mk.injEq, true_and, and_true, show ¬ (13 = 11) by decide, show ¬ (13 = 12) by decide, false_and, if_false]
          rw [lcp_o (by simp), shF_13, shF_13]
          exact sh1_s
        · simp only [h1, h2, h3, false_and, if_false]
          rw [lcp_o h6, shF_o h6 h1 h2 h3, shF_o h6 h1 h2 h3]

set_option maxRecDepth 20000 in
set_option maxHeartbeats 2000000 in
theorem l_dropFirst (K : EK) (d : Nat) {s z : Nat} (hs : s < 8) (hz8 : z < 8) (D : DT) (hz : D (15, 10, 0) s = nI z) (hB : ∀ u, u < 35072 → isB (D (15, 6, 0) u)) : ∀ n k, k ≤ z → z + 1 ≤ k + n → RD K mX6_dropFirst (d + 1) 15 [some (rR (14, 0, 0)), some (rI (nI s)), some (rI (nI (8 * s + k)))] [] (shF D s k) (fun r0 D0 => r0 = none ∧ D0 = shF D s z) := by
  intro n
  induction n with
  | zero =>
    intro k hkz9 hn
    omega
  | succ n ih =>
    intro k hkz9 hn
    refine RD.iload_n (pc := 15) dX6_dropFirst_15 rfl ?_
    refine RD.bipush (pc := 16) (v := 8) dX6_dropFirst_16 (by decide) ?_
    refine RD.iload_n (pc := 18) dX6_dropFirst_18 rfl ?_
    refine RD.imul (pc := 19) dX6_dropFirst_19 ?_
    refine RD.eqI (pk_mul 8 s) ?_
    refine RD.aload_n (pc := 20) dX6_dropFirst_20 rfl ?_
    refine RD.getR (pc := 21) dX6_dropFirst_21 flX6_42 ok14 rfl rfl ?_
    refine RD.iload_n (pc := 24) dX6_dropFirst_24 rfl ?_
    refine RD.iL (pc := 25) (n := 8) s (v := nI z) (by rw [shF_o (by simp) (by simp) (by simp) (by simp)]; exact hz) dX6_dropFirst_25 (ok15 (by decide)) rfl rfl hs (by decide) ?_
    refine RD.iadd (pc := 26) dX6_dropFirst_26 ?_
    refine RD.eqI (nI_add (8 * s) z) ?_
    refine RD.icmp_ge (pc := 27) 92 dX6_dropFirst_27 (by decide) (fun c27 => ?_) (fun c27 => ?_)
    · have hkz : k = z := by
        have := (nI_leI (a := 8 * s + z) (b := 8 * s + k) (by omega) (by omega)).mp c27
        omega
      subst hkz
      refine RD.ret (pc := 92) ⟨rfl, dX6_dropFirst_92⟩ ?_
      exact ⟨rfl, rfl⟩
    · have hkz : k < z := Nat.lt_of_not_le (fun h => c27 (nI_le (a := 8 * s + z) (b := 8 * s + k) (by omega) (by omega)))
      refine RD.aload_n (pc := 30) dX6_dropFirst_30 rfl ?_
      refine RD.bipush (pc := 31) (v := 72) dX6_dropFirst_31 (by decide) ?_
      refine RD.iload_n (pc := 33) dX6_dropFirst_33 rfl ?_
      refine RD.iadd (pc := 34) dX6_dropFirst_34 ?_
      refine RD.eqI (nI_add 72 (8 * s + k)) ?_
      refine RD.iconst (pc := 35) (v := 1) dX6_dropFirst_35 (by decide) ?_
      refine RD.iadd (pc := 36) dX6_dropFirst_36 ?_
      refine RD.eqI (nI_add (72 + (8 * s + k)) 1) ?_
      refine RD.bipush (pc := 37) (v := 72) dX6_dropFirst_37 (by decide) ?_
      refine RD.iload_n (pc := 39) dX6_dropFirst_39 rfl ?_
      refine RD.iadd (pc := 40) dX6_dropFirst_40 ?_
      refine RD.eqI (nI_add 72 (8 * s + k)) ?_
      refine RD.cV2v (pc := 41) dX6_dropFirst_41 mlX6_71 rfl ok14 rfl (c_copyLabel K _ (l := 72 + (8 * s + k) + 1) (m := 72 + (8 * s + k)) (by omega) (by omega) (by omega) (shF D s k) (fun u hu => by rw [shF_6]; unfold sh1; split <;> exact hB _ (by omega))) (leb rfl) ?_
      refine RD.aload_n (pc := 44) dX6_dropFirst_44 rfl ?_
      refine RD.getR (pc := 45) dX6_dropFirst_45 flX6_45 ok14 rfl rfl ?_
      refine RD.iload_n (pc := 48) dX6_dropFirst_48 rfl ?_
      refine RD.aload_n (pc := 49) dX6_dropFirst_49 rfl ?_
      refine RD.getR (pc := 50) dX6_dropFirst_50 flX6_45 ok14 rfl rfl ?_
      refine RD.iload_n (pc := 53) dX6_dropFirst_53 rfl ?_
      refine RD.iconst (pc := 54) (v := 1) dX6_dropFirst_54 (by decide) ?_
      refine RD.iadd (pc := 55) dX6_dropFirst_55 ?_
      refine RD.eqI (nI_add (8 * s + k) 1) ?_
      refine RD.iL (pc := 56) (n := 64) ((8 * s + k) + 1) (v := D (15, 11, 0) (8 * s + k + 1)) ((congrFun (lcp_o (by simp)) _).trans (by rw [shF_11, sh1_out (by omega)])) dX6_dropFirst_56 (ok15 (by decide)) rfl rfl (by omega) (by decide) ?_
      refine RD.iast (pc := 57) (n := 64) (8 * s + k) dX6_dropFirst_57 (ok15 (by decide)) rfl rfl (by omega) (by decide) ?_
      refine RD.aload_n (pc := 58) dX6_dropFirst_58 rfl ?_
      refine RD.getR (pc := 59) dX6_dropFirst_59 flX6_48 ok14 rfl rfl ?_
      refine RD.iload_n (pc := 62) dX6_dropFirst_62 rfl ?_
      refine RD.aload_n (pc := 63) dX6_dropFirst_63 rfl ?_
      refine RD.getR (pc := 64) dX6_dropFirst_64 flX6_48 ok14 rfl rfl ?_
      refine RD.iload_n (pc := 67) dX6_dropFirst_67 rfl ?_
      refine RD.iconst (pc := 68) (v := 1) dX6_dropFirst_68 (by decide) ?_
      refine RD.iadd (pc := 69) dX6_dropFirst_69 ?_
      refine RD.eqI (nI_add (8 * s + k) 1) ?_
      refine RD.iL (pc := 70) (n := 64) ((8 * s + k) + 1) (v := D (15, 12, 0) (8 * s + k + 1)) (up_N (by simp) ((congrFun (lcp_o (by simp)) _).trans (by rw [shF_12, sh1_out (by omega)]))) dX6_dropFirst_70 (ok15 (by decide)) rfl rfl (by omega) (by decide) ?_
      refine RD.iast (pc := 71) (n := 64) (8 * s + k) dX6_dropFirst_71 (ok15 (by decide)) rfl rfl (by omega) (by decide) ?_
      refine RD.aload_n (pc := 72) dX6_dropFirst_72 rfl ?_
      refine RD.getR (pc := 73) dX6_dropFirst_73 flX6_51 ok14 rfl rfl ?_
      refine RD.iload_n (pc := 76) dX6_dropFirst_76 rfl ?_
      refine RD.aload_n (pc := 77) dX6_dropFirst_77 rfl ?_
      refine RD.getR (pc := 78) dX6_dropFirst_78 flX6_51 ok14 rfl rfl ?_
      refine RD.iload_n (pc := 81) dX6_dropFirst_81 rfl ?_
      refine RD.iconst (pc := 82) (v := 1) dX6_dropFirst_82 (by decide) ?_
      refine RD.iadd (pc := 83) dX6_dropFirst_83 ?_
      refine RD.eqI (nI_add (8 * s + k) 1) ?_
      refine RD.iL (pc := 84) (n := 64) ((8 * s + k) + 1) (v := D (15, 13, 0) (8 * s + k + 1)) (up_N (by simp) (up_N (by simp) ((congrFun (lcp_o (by simp)) _).trans (by rw [shF_13, sh1_out (by omega)])))) dX6_dropFirst_84 (ok15 (by decide)) rfl rfl (by omega) (by decide) ?_
      refine RD.iast (pc := 85) (n := 64) (8 * s + k) dX6_dropFirst_85 (ok15 (by decide)) rfl rfl (by omega) (by decide) ?_
      rw [shF_s]
      refine RD.iinc (pc := 86) (ls' := [some (rR (14, 0, 0)), some (rI (nI s)), some (rI (nI (8 * s + (k + 1))))]) dX6_dropFirst_86 rfl (nI_1 (8 * s + k)) (by decide) rfl ?_
      refine RD.goto (pc := 89) 15 dX6_dropFirst_89 (by decide) ?_
      exact ih (k + 1) (by omega) (by omega)

def dropF (D : DT) (s z : Nat) : DT := shF (up D (15, 10, 0) s (nI z)) s z

set_option maxRecDepth 20000 in
set_option maxHeartbeats 2000000 in
theorem c_dropFirst (K : EK) (d : Nat) {s z : Nat} (hs : s < 8) (hz8 : z < 8) (D : DT) (hz : D (15, 10, 0) s = nI (z + 1)) (hB : ∀ u, u < 35072 → isB (D (15, 6, 0) u)) : CF K mX6_dropFirst (d + 1) [rR (14, 0, 0), rI (nI s)] D (none) (dropF D s z) := by
  refine CF.of [some (rR (14, 0, 0)), some (rI (nI s)), none] (by decide) (leb rfl) rfl ?_
  refine RD.aload_n (pc := 0) dX6_dropFirst_0 rfl ?_
  refine RD.getR (pc := 1) dX6_dropFirst_1 flX6_42 ok14 rfl rfl ?_
  refine RD.iload_n (pc := 4) dX6_dropFirst_4 rfl ?_
  refine RD.dup2 (pc := 5) dX6_dropFirst_5 ?_
  refine RD.iL (pc := 6) (n := 8) s (v := nI (z + 1)) hz dX6_dropFirst_6 (ok15 (by decide)) rfl rfl hs (by decide) ?_
  refine RD.iconst (pc := 7) (v := 1) dX6_dropFirst_7 (by decide) ?_
  refine RD.isub (pc := 8) dX6_dropFirst_8 ?_
  refine RD.eqI (nI_pred z) ?_
  refine RD.iast (pc := 9) (n := 8) s dX6_dropFirst_9 (ok15 (by decide)) rfl rfl hs (by decide) ?_
  refine RD.bipush (pc := 10) (v := 8) dX6_dropFirst_10 (by decide) ?_
  refine RD.iload_n (pc := 12) dX6_dropFirst_12 rfl ?_
  refine RD.imul (pc := 13) dX6_dropFirst_13 ?_
  refine RD.eqI (pk_mul 8 s) ?_
  refine RD.istore_n (pc := 14) (ls' := [some (rR (14, 0, 0)), some (rI (nI s)), some (rI (nI (8 * s)))]) dX6_dropFirst_14 (by decide) rfl ?_
  have h := l_dropFirst K d hs hz8 (up D (15, 10, 0) s (nI z)) up_s (fun u hu => by rw [up_n (by simp)]; exact hB u hu) (z + 1) 0 (by omega) (by omega)
  rw [shF_0] at h
  exact h
