def isB (x : Int32) : Prop := x = 0 ∨ x = 1
theorem isB_nar {x : Int32} (h : isB x) : vp_nar .boolean x = x := by
  rcases h with rfl | rfl <;> rfl
theorem isB_bI (b : Bool) : isB (bI b) := by cases b <;> simp [isB, bI]
def inB (x lo hi : Int32) : Bool := decide (lo ≤ x) && decide (x ≤ hi)

set_option maxRecDepth 20000 in
set_option maxHeartbeats 1000000 in
theorem c_mIsInG (K : EK) (d : Nat) (D : DT) (x lo hi : Int32) : CF K mX6_isIn d [rI x, rI lo, rI hi] D (some (rI (bI (inB x lo hi)))) D := by
  refine CF.of [some (rI x), some (rI lo), some (rI hi)] (by decide) (leb rfl) rfl ?_
  refine RD.iload_n (pc := 0) dX6_isIn_0 rfl ?_
  refine RD.iload_n (pc := 1) dX6_isIn_1 rfl ?_
  refine RD.icmp_lt (pc := 2) 14 dX6_isIn_2 (by decide) (fun c2 => ?_) (fun c2 => ?_)
  · refine RD.iconst (pc := 14) (v := 0) dX6_isIn_14 (by decide) ?_
    refine RD.ireturn (pc := 15) dX6_isIn_15 rfl rfl ?_
    exact ⟨by simp [inB, Int32.not_le.mpr c2, bI], rfl⟩
  · refine RD.iload_n (pc := 5) dX6_isIn_5 rfl ?_
    refine RD.iload_n (pc := 6) dX6_isIn_6 rfl ?_
    refine RD.icmp_gt (pc := 7) 14 dX6_isIn_7 (by decide) (fun c7 => ?_) (fun c7 => ?_)
    · refine RD.iconst (pc := 14) (v := 0) dX6_isIn_14 (by decide) ?_
      refine RD.ireturn (pc := 15) dX6_isIn_15 rfl rfl ?_
      exact ⟨by simp [inB, Int32.not_le.mpr c7, bI], rfl⟩
    · refine RD.iconst (pc := 10) (v := 1) dX6_isIn_10 (by decide) ?_
      refine RD.goto (pc := 11) 15 dX6_isIn_11 (by decide) ?_
      refine RD.ireturn (pc := 15) dX6_isIn_15 rfl rfl ?_
      exact ⟨by simp [inB, i32_nlt c2, i32_nlt c7, bI], rfl⟩

theorem inB_inR {x : Int32} {n : Nat} (hn : n < 2 ^ 30) : inB x 0 (nI n) = inR x (n + 1) := by
  by_cases h1 : x < 0
  · rw [inR_neg h1]; simp [inB, Int32.not_le.mpr h1]
  · by_cases h2 : x ≤ nI n
    · rw [le_in hn h1 h2]; simp [inB, i32_nlt h1, h2]
    · rw [nle_in hn h2]; simp [inB, h2]
theorem c_mIsIn (K : EK) (d : Nat) (D : DT) (x : Int32) (n : Nat) (hn : n < 2 ^ 30) : CF K mX6_isIn d [rI x, rI 0, rI (nI n)] D (some (rI (bI (inR x (n + 1))))) D := by
  rw [← inB_inR hn]; exact c_mIsInG K d D x 0 (nI n)

set_option maxRecDepth 20000 in
set_option maxHeartbeats 1000000 in
theorem c_mIsSlot (K : EK) (d : Nat) (D : DT) (t : Int32) : CF K mX6_isSlot (d + 1) [rI t] D (some (rI (bI (inR t 8)))) D := by
  refine CF.of [some (rI t)] (by decide) (leb rfl) rfl ?_
  refine RD.iload_n (pc := 0) dX6_isSlot_0 rfl ?_
  refine RD.iconst (pc := 1) (v := 0) dX6_isSlot_1 (by decide) ?_
  refine RD.bipush (pc := 2) (v := 7) dX6_isSlot_2 (by decide) ?_
  refine RD.cS3 (pc := 4) dX6_isSlot_4 mlX6_63 (c_mIsIn K _ D t 7 (by decide)) (leb rfl) ?_
  refine RD.ireturn (pc := 7) dX6_isSlot_7 rfl (nar_bI _) ?_
  exact ⟨rfl, rfl⟩

set_option maxRecDepth 20000 in
set_option maxHeartbeats 1000000 in
theorem c_mIsCell (K : EK) (d : Nat) (D : DT) (t : Int32) : CF K mX6_isCell (d + 1) [rI t] D (some (rI (bI (inR t 128)))) D := by
  refine CF.of [some (rI t)] (by decide) (leb rfl) rfl ?_
  refine RD.iload_n (pc := 0) dX6_isCell_0 rfl ?_
  refine RD.iconst (pc := 1) (v := 0) dX6_isCell_1 (by decide) ?_
  refine RD.bipush (pc := 2) (v := 127) dX6_isCell_2 (by decide) ?_
  refine RD.cS3 (pc := 4) dX6_isCell_4 mlX6_63 (c_mIsIn K _ D t 127 (by decide)) (leb rfl) ?_
  refine RD.ireturn (pc := 7) dX6_isCell_7 rfl (nar_bI _) ?_
  exact ⟨rfl, rfl⟩

/-- the tag is THERE -/
def mthB (D : DT) (t : Int32) : Bool := inR t 256 && decide (nI (t.toNatClampNeg % 32) < D (15, 5, 0) (t.toNatClampNeg / 32))
theorem mthB_nI {D : DT} {n : Nat} (hn : n < 256) : mthB D (nI n) = decide (nI (n % 32) < D (15, 5, 0) (n / 32)) := by
  rw [mthB, inR_nI (by decide) hn, nI_clamp (by omega), Bool.true_and]

set_option maxRecDepth 20000 in
set_option maxHeartbeats 1000000 in
theorem c_mIsThere (K : EK) (d : Nat) (D : DT) (t : Int32) : CF K mX6_isThere (d + 1) [rR (14, 0, 0), rI t] D (some (rI (bI (mthB D t)))) D := by
  refine CF.of [some (rR (14, 0, 0)), some (rI t)] (by decide) (leb rfl) rfl ?_
  refine RD.iload_n (pc := 0) dX6_isThere_0 rfl ?_
  refine RD.iconst (pc := 1) (v := 0) dX6_isThere_1 (by decide) ?_
  refine RD.sipush (pc := 2) (v := 255) dX6_isThere_2 (by decide) ?_
  refine RD.cS3 (pc := 5) dX6_isThere_5 mlX6_63 (c_mIsIn K _ D t 255 (by decide)) (leb rfl) ?_
  refine RD.if_eq (pc := 8) 31 dX6_isThere_8 (by decide) (fun c8 => ?_) (fun c8 => ?_)
  · refine RD.iconst (pc := 31) (v := 0) dX6_isThere_31 (by decide) ?_
    refine RD.ireturn (pc := 32) dX6_isThere_32 rfl rfl ?_
    exact ⟨by rw [mthB, bI_0 c8]; rfl, rfl⟩
  · obtain ⟨n, hn, rfl⟩ := inR_t (N := 256) (by decide) (bI_1 c8)
    refine RD.iload_n (pc := 11) dX6_isThere_11 rfl ?_
    refine RD.bipush (pc := 12) (v := 32) dX6_isThere_12 (by decide) ?_
    refine RD.irem (pc := 14) dX6_isThere_14 (by decide) ?_
    refine RD.aload_n (pc := 15) dX6_isThere_15 rfl ?_
    refine RD.getR (pc := 16) dX6_isThere_16 flX6_25 ok14 rfl rfl ?_
    refine RD.iload_n (pc := 19) dX6_isThere_19 rfl ?_
    refine RD.bipush (pc := 20) (v := 32) dX6_isThere_20 (by decide) ?_
    refine RD.idiv (pc := 22) dX6_isThere_22 (by decide) ?_
    refine RD.iL (pc := 23) (n := 8) (n / 32) (v := D (15, 5, 0) (n / 32)) rfl dX6_isThere_23 (ok15 (by decide)) rfl (div32 (by omega)) (by omega) (by decide) ?_
    refine RD.icmp_ge (pc := 24) 31 dX6_isThere_24 (by decide) (fun c24 => ?_) (fun c24 => ?_)
    · refine RD.iconst (pc := 31) (v := 0) dX6_isThere_31 (by decide) ?_
      refine RD.ireturn (pc := 32) dX6_isThere_32 rfl rfl ?_
      rw [rem32 (by omega)] at c24
      exact ⟨by rw [mthB_nI hn, decide_eq_false (Int32.not_lt.mpr c24)]; rfl, rfl⟩
    · refine RD.iconst (pc := 27) (v := 1) dX6_isThere_27 (by decide) ?_
      refine RD.goto (pc := 28) 32 dX6_isThere_28 (by decide) ?_
      refine RD.ireturn (pc := 32) dX6_isThere_32 rfl rfl ?_
      rw [rem32 (by omega)] at c24
      exact ⟨by rw [mthB_nI hn, decide_eq_true (i32_nle c24)]; rfl, rfl⟩


def cntN (p : Nat → Bool) : Nat → Nat
  | 0 => 0
  | n + 1 => cntN p n + (if p n = true then 1 else 0)
def allN (p : Nat → Bool) : Nat → Bool
  | 0 => true
  | n + 1 => allN p n && p n
theorem cntN_le (p : Nat → Bool) : ∀ n, cntN p n ≤ n
  | 0 => Nat.le_refl 0
  | n + 1 => by
    have := cntN_le p n
    unfold cntN
    split <;> omega
/-- tag t of label l; capability row r -/
def lbB (D : DT) (l t : Nat) : Bool := !decide (D (15, 6, 0) (256 * l + t) = 0)
def cpB (D : DT) (r t : Nat) : Bool := !decide (D (15, 7, 0) (256 * r + t) = 0)
abbrev mnF (D : DT) (l : Nat) : Nat := cntN (lbB D l) 256
abbrev cnF (D : DT) (r : Nat) : Nat := cntN (cpB D r) 256

set_option maxRecDepth 20000 in
set_option maxHeartbeats 2000000 in
theorem l_many (K : EK) (d : Nat) {l : Nat} (hl : l < 137) (D : DT) : ∀ n k, k ≤ 256 → 257 ≤ k + n → RD K mX6_many d 4 [some (rR (14, 0, 0)), some (rI (nI l)), some (rI (nI (cntN (lbB D l) k))), some (rI (nI k))] [] D (fun r0 D0 => r0 = some (rI (nI (mnF D l))) ∧ D0 = D) := by
  intro n
  induction n with
  | zero =>
    intro k hk9 hn
    omega
  | succ n ih =>
    intro k hk9 hn
    refine RD.iload_n (pc := 4) dX6_many_4 rfl ?_
    refine RD.sipush (pc := 5) (v := 256) dX6_many_5 (by decide) ?_
    refine RD.icmp_ge (pc := 8) 40 dX6_many_8 (by decide) (fun c8 => ?_) (fun c8 => ?_)
    · have hk8 : k = 256 := by
        have := (nI_leI (a := 256) (b := k) (by decide) (by omega)).mp c8
        omega
      subst hk8
      refine RD.iload_n (pc := 40) dX6_many_40 rfl ?_
      refine RD.ireturn (pc := 41) dX6_many_41 rfl rfl ?_
      exact ⟨rfl, rfl⟩
    · have hk : k < 256 := Nat.lt_of_not_le (fun h => c8 (nI_le h (by omega)))
      refine RD.iload_n (pc := 11) dX6_many_11 rfl ?_
      refine RD.aload_n (pc := 12) dX6_many_12 rfl ?_
      refine RD.getR (pc := 13) dX6_many_13 flX6_29 ok14 rfl rfl ?_
      refine RD.sipush (pc := 16) (v := 256) dX6_many_16 (by decide) ?_
      refine RD.iload_n (pc := 19) dX6_many_19 rfl ?_
      refine RD.imul (pc := 20) dX6_many_20 ?_
      refine RD.eqI (pk_mul 256 l) ?_
      refine RD.iload_n (pc := 21) dX6_many_21 rfl ?_
      refine RD.iadd (pc := 22) dX6_many_22 ?_
      refine RD.eqI (nI_add (256 * l) k) ?_
      refine RD.zL (pc := 23) (n := 35072) ((256 * l) + k) (v := D (15, 6, 0) ((256 * l) + k)) rfl dX6_many_23 (ok15 (by decide)) rfl rfl (by omega) (by decide) ?_
      refine RD.if_eq (pc := 24) 31 dX6_many_24 (by decide) (fun c24 => ?_) (fun c24 => ?_)
      · refine RD.iconst (pc := 31) (v := 0) dX6_many_31 (by decide) ?_
        refine RD.iadd (pc := 32) dX6_many_32 ?_
        refine RD.eqI (nI_add (cntN (lbB D l) k) 0) ?_
        refine RD.eqI (show _ = nI (cntN (lbB D l) (k + 1)) by simp [cntN, lbB, c24]) ?_
        refine RD.istore_n (pc := 33) (ls' := [some (rR (14, 0, 0)), some (rI (nI l)), some (rI (nI (cntN (lbB D l) (k + 1)))), some (rI (nI k))]) dX6_many_33 (by decide) rfl ?_
        refine RD.iinc (pc := 34) (ls' := [some (rR (14, 0, 0)), some (rI (nI l)), some (rI (nI (cntN (lbB D l) (k + 1)))), some (rI (nI (k + 1)))]) dX6_many_34 rfl (nI_1 k) (by decide) rfl ?_
        refine RD.goto (pc := 37) 4 dX6_many_37 (by decide) ?_
        exact ih (k + 1) (by omega) (by omega)
      · refine RD.iconst (pc := 27) (v := 1) dX6_many_27 (by decide) ?_
        refine RD.goto (pc := 28) 32 dX6_many_28 (by decide) ?_
        refine RD.iadd (pc := 32) dX6_many_32 ?_
        refine RD.eqI (nI_add (cntN (lbB D l) k) 1) ?_
        refine RD.eqI (show _ = nI (cntN (lbB D l) (k + 1)) by simp [cntN, lbB, c24]) ?_
        refine RD.istore_n (pc := 33) (ls' := [some (rR (14, 0, 0)), some (rI (nI l)), some (rI (nI (cntN (lbB D l) (k + 1)))), some (rI (nI k))]) dX6_many_33 (by decide) rfl ?_
        refine RD.iinc (pc := 34) (ls' := [some (rR (14, 0, 0)), some (rI (nI l)), some (rI (nI (cntN (lbB D l) (k + 1)))), some (rI (nI (k + 1)))]) dX6_many_34 rfl (nI_1 k) (by decide) rfl ?_
        refine RD.goto (pc := 37) 4 dX6_many_37 (by decide) ?_
        exact ih (k + 1) (by omega) (by omega)

set_option maxRecDepth 20000 in
set_option maxHeartbeats 2000000 in
theorem c_many (K : EK) (d : Nat) {l : Nat} (hl : l < 137) (D : DT) : CF K mX6_many d [rR (14, 0, 0), rI (nI l)] D (some (rI (nI (mnF D l)))) D := by
  refine CF.of [some (rR (14, 0, 0)), some (rI (nI l)), none, none] (by decide) (leb rfl) rfl ?_
  refine RD.iconst (pc := 0) (v := 0) dX6_many_0 (by decide) ?_
  refine RD.istore_n (pc := 1) (ls' := [some (rR (14, 0, 0)), some (rI (nI l)), some (rI 0), none]) dX6_many_1 (by decide) rfl ?_
  refine RD.iconst (pc := 2) (v := 0) dX6_many_2 (by decide) ?_
  refine RD.istore_n (pc := 3) (ls' := [some (rR (14, 0, 0)), some (rI (nI l)), some (rI 0), some (rI 0)]) dX6_many_3 (by decide) rfl ?_
  exact l_many K d hl D 257 0 (by omega) (by omega)


abbrev subP (D : DT) (l m : Nat) : Nat → Bool := fun t => !lbB D l t || lbB D m t
abbrev subM (D : DT) (l m : Nat) : Bool := allN (subP D l m) 256

set_option maxRecDepth 20000 in
set_option maxHeartbeats 2000000 in
theorem l_isInLabel (K : EK) (d : Nat) {l m : Nat} (hl : l < 137) (hm : m < 137) (D : DT) : ∀ n k, k ≤ 256 → 257 ≤ k + n → RD K mX6_isInLabel d 5 [some (rR (14, 0, 0)), some (rI (nI l)), some (rI (nI m)), some (rI (bI (allN (subP D l m) k))), some (rI (nI k))] [] D (fun r0 D0 => r0 = some (rI (bI (subM D l m))) ∧ D0 = D) := by
  intro n
  induction n with
  | zero =>
    intro k hk9 hn
    omega
  | succ n ih =>
    intro k hk9 hn
    refine RD.iload (pc := 5) dX6_isInLabel_5 rfl ?_
    refine RD.sipush (pc := 7) (v := 256) dX6_isInLabel_7 (by decide) ?_
    refine RD.icmp_ge (pc := 10) 61 dX6_isInLabel_10 (by decide) (fun c10 => ?_) (fun c10 => ?_)
    · have hk8 : k = 256 := by
        have := (nI_leI (a := 256) (b := k) (by decide) (by omega)).mp c10
        omega
      subst hk8
      refine RD.iload_n (pc := 61) dX6_isInLabel_61 rfl ?_
      refine RD.ireturn (pc := 62) dX6_isInLabel_62 rfl (nar_bI _) ?_
      exact ⟨rfl, rfl⟩
    · have hk : k < 256 := Nat.lt_of_not_le (fun h => c10 (nI_le h (by omega)))
      refine RD.iload_n (pc := 13) dX6_isInLabel_13 rfl ?_
      refine RD.if_eq (pc := 14) 53 dX6_isInLabel_14 (by decide) (fun c14 => ?_) (fun c14 => ?_)
      · refine RD.iconst (pc := 53) (v := 0) dX6_isInLabel_53 (by decide) ?_
        refine RD.eqI (show _ = bI (allN (subP D l m) (k + 1)) by rw [allN, bI_0 c14]; rfl) ?_
        refine RD.istore_n (pc := 54) (ls' := [some (rR (14, 0, 0)), some (rI (nI l)), some (rI (nI m)), some (rI (bI (allN (subP D l m) (k + 1)))), some (rI (nI k))]) dX6_isInLabel_54 (by decide) rfl ?_
        refine RD.iinc (pc := 55) (ls' := [some (rR (14, 0, 0)), some (rI (nI l)), some (rI (nI m)), some (rI (bI (allN (subP D l m) (k + 1)))), some (rI (nI (k + 1)))]) dX6_isInLabel_55 rfl (nI_1 k) (by decide) rfl ?_
        refine RD.goto (pc := 58) 5 dX6_isInLabel_58 (by decide) ?_
        exact ih (k + 1) (by omega) (by omega)
      · refine RD.aload_n (pc := 17) dX6_isInLabel_17 rfl ?_
        refine RD.getR (pc := 18) dX6_isInLabel_18 flX6_29 ok14 rfl rfl ?_
        refine RD.sipush (pc := 21) (v := 256) dX6_isInLabel_21 (by decide) ?_
        refine RD.iload_n (pc := 24) dX6_isInLabel_24 rfl ?_
        refine RD.imul (pc := 25) dX6_isInLabel_25 ?_
        refine RD.eqI (pk_mul 256 l) ?_
        refine RD.iload (pc := 26) dX6_isInLabel_26 rfl ?_
        refine RD.iadd (pc := 28) dX6_isInLabel_28 ?_
        refine RD.eqI (nI_add (256 * l) k) ?_
        refine RD.zL (pc := 29) (n := 35072) ((256 * l) + k) (v := D (15, 6, 0) ((256 * l) + k)) rfl dX6_isInLabel_29 (ok15 (by decide)) rfl rfl (by omega) (by decide) ?_
        refine RD.if_eq (pc := 30) 49 dX6_isInLabel_30 (by decide) (fun c30 => ?_) (fun c30 => ?_)
        · refine RD.iconst (pc := 49) (v := 1) dX6_isInLabel_49 (by decide) ?_
          refine RD.goto (pc := 50) 54 dX6_isInLabel_50 (by decide) ?_
          refine RD.eqI (show _ = bI (allN (subP D l m) (k + 1)) by rw [allN, bI_1 c14]; simp [subP, lbB, c30, bI]) ?_
          refine RD.istore_n (pc := 54) (ls' := [some (rR (14, 0, 0)), some (rI (nI l)), some (rI (nI m)), some (rI (bI (allN (subP D l m) (k + 1)))), some (rI (nI k))]) dX6_isInLabel_54 (by decide) rfl ?_
          refine RD.iinc (pc := 55) (ls' := [some (rR (14, 0, 0)), some (rI (nI l)), some (rI (nI m)), some (rI (bI (allN (subP D l m) (k + 1)))), some (rI (nI (k + 1)))]) dX6_isInLabel_55 rfl (nI_1 k) (by decide) rfl ?_
          refine RD.goto (pc := 58) 5 dX6_isInLabel_58 (by decide) ?_
          exact ih (k + 1) (by omega) (by omega)
        · refine RD.aload_n (pc := 33) dX6_isInLabel_33 rfl ?_
          refine RD.getR (pc := 34) dX6_isInLabel_34 flX6_29 ok14 rfl rfl ?_
          refine RD.sipush (pc := 37) (v := 256) dX6_isInLabel_37 (by decide) ?_
          refine RD.iload_n (pc := 40) dX6_isInLabel_40 rfl ?_
          refine RD.imul (pc := 41) dX6_isInLabel_41 ?_
          refine RD.eqI (pk_mul 256 m) ?_
          refine RD.iload (pc := 42) dX6_isInLabel_42 rfl ?_
          refine RD.iadd (pc := 44) dX6_isInLabel_44 ?_
          refine RD.eqI (nI_add (256 * m) k) ?_
          refine RD.zL (pc := 45) (n := 35072) ((256 * m) + k) (v := D (15, 6, 0) ((256 * m) + k)) rfl dX6_isInLabel_45 (ok15 (by decide)) rfl rfl (by omega) (by decide) ?_
          refine RD.if_eq (pc := 46) 53 dX6_isInLabel_46 (by decide) (fun c46 => ?_) (fun c46 => ?_)
          · refine RD.iconst (pc := 53) (v := 0) dX6_isInLabel_53 (by decide) ?_
            refine RD.eqI (show _ = bI (allN (subP D l m) (k + 1)) by rw [allN, bI_1 c14]; simp [subP, lbB, c30, c46, bI]) ?_
            refine RD.istore_n (pc := 54) (ls' := [some (rR (14, 0, 0)), some (rI (nI l)), some (rI (nI m)), some (rI (bI (allN (subP D l m) (k + 1)))), some (rI (nI k))]) dX6_isInLabel_54 (by decide) rfl ?_
            refine RD.iinc (pc := 55) (ls' := [some (rR (14, 0, 0)), some (rI (nI l)), some (rI (nI m)), some (rI (bI (allN (subP D l m) (k + 1)))), some (rI (nI (k + 1)))]) dX6_isInLabel_55 rfl (nI_1 k) (by decide) rfl ?_
            refine RD.goto (pc := 58) 5 dX6_isInLabel_58 (by decide) ?_
            exact ih (k + 1) (by omega) (by omega)
          · refine RD.iconst (pc := 49) (v := 1) dX6_isInLabel_49 (by decide) ?_
            refine RD.goto (pc := 50) 54 dX6_isInLabel_50 (by decide) ?_
            refine RD.eqI (show _ = bI (allN (subP D l m) (k + 1)) by rw [allN, bI_1 c14]; simp [subP, lbB, c30, c46, bI]) ?_
            refine RD.istore_n (pc := 54) (ls' := [some (rR (14, 0, 0)), some (rI (nI l)), some (rI (nI m)), some (rI (bI (allN (subP D l m) (k + 1)))), some (rI (nI k))]) dX6_isInLabel_54 (by decide) rfl ?_
            refine RD.iinc (pc := 55) (ls' := [some (rR (14, 0, 0)), some (rI (nI l)), some (rI (nI m)), some (rI (bI (allN (subP D l m) (k + 1)))), some (rI (nI (k + 1)))]) dX6_isInLabel_55 rfl (nI_1 k) (by decide) rfl ?_
            refine RD.goto (pc := 58) 5 dX6_isInLabel_58 (by decide) ?_
            exact ih (k + 1) (by omega) (by omega)

set_option maxRecDepth 20000 in
set_option maxHeartbeats 2000000 in
theorem c_isInLabel (K : EK) (d : Nat) {l m : Nat} (hl : l < 137) (hm : m < 137) (D : DT) : CF K mX6_isInLabel d [rR (14, 0, 0), rI (nI l), rI (nI m)] D (some (rI (bI (subM D l m)))) D := by
  refine CF.of [some (rR (14, 0, 0)), some (rI (nI l)), some (rI (nI m)), none, none] (by decide) (leb rfl) rfl ?_
  refine RD.iconst (pc := 0) (v := 1) dX6_isInLabel_0 (by decide) ?_
  refine RD.istore_n (pc := 1) (ls' := [some (rR (14, 0, 0)), some (rI (nI l)), some (rI (nI m)), some (rI 1), none]) dX6_isInLabel_1 (by decide) rfl ?_
  refine RD.iconst (pc := 2) (v := 0) dX6_isInLabel_2 (by decide) ?_
  refine RD.istore (pc := 3) (ls' := [some (rR (14, 0, 0)), some (rI (nI l)), some (rI (nI m)), some (rI 1), some (rI 0)]) dX6_isInLabel_3 (by decide) rfl ?_
  exact l_isInLabel K d hl hm D 257 0 (by omega) (by omega)


/-- the first n tags of label m are those of label l -/
def lcp (D : DT) (l m n : Nat) : DT := fun a => if a = (15, 6, 0) then (fun k => if 256 * m ≤ k ∧ k < 256 * m + n then D (15, 6, 0) (256 * l + (k - 256 * m)) else D (15, 6, 0) k) else D a
theorem lcp_0 (D : DT) (l m : Nat) : lcp D l m 0 = D := by
  funext a
  by_cases h : a = (15, 6, 0)
  · subst h
    funext k
    have : ¬ (256 * m ≤ k ∧ k < 256 * m + 0) := by omega
    simp only [lcp, if_true, this, if_false]
  · simp [lcp, h]
theorem lcp_o {D : DT} {l m n : Nat} {a : AD} (h : a ≠ (15, 6, 0)) : lcp D l m n a = D a := by rw [lcp, if_neg h]
theorem lcp_r {D : DT} {l m n k : Nat} (h : l ≠ m) (hk : k < 256) (hn : n ≤ 256) : lcp D l m n (15, 6, 0) (256 * l + k) = D (15, 6, 0) (256 * l + k) := by
  have : ¬ (256 * m ≤ 256 * l + k ∧ 256 * l + k < 256 * m + n) := by omega
  simp only [lcp, if_true, this, if_false]
theorem lcp_s {D : DT} {l m n : Nat} : up (lcp D l m n) (15, 6, 0) (256 * m + n) (D (15, 6, 0) (256 * l + n)) = lcp D l m (n + 1) := by
  funext a k
  rw [up_at]
  by_cases h : a = (15, 6, 0)
  · subst h
    by_cases h2 : k = 256 * m + n
    · subst h2
      have h3 : 256 * m ≤ 256 * m + n ∧ 256 * m + n < 256 * m + (n + 1) := by omega
      have h4 : 256 * m + n - 256 * m = n := by omega
      simp only [lcp, if_true, h3, h4, and_self]
    · by_cases h3 : 256 * m ≤ k ∧ k < 256 * m + n
      · have h4 : 256 * m ≤ k ∧ k < 256 * m + (n + 1) := by omega
        simp only [lcp, if_true, h2, and_false, if_false, h3, h4, and_self]
      · have h4 : ¬ (256 * m ≤ k ∧ k < 256 * m + (n + 1)) := by omega
        simp only [lcp, if_true, h2, and_false, if_false, h3, h4]
  · simp [lcp, h]

set_option maxRecDepth 20000 in
set_option maxHeartbeats 2000000 in
theorem l_copyLabel (K : EK) (d : Nat) {l m : Nat} (hl : l < 137) (hm : m < 137) (hlm : l ≠ m) (D : DT) (hB : ∀ t, t < 256 → isB (D (15, 6, 0) (256 * l + t))) : ∀ n k, k ≤ 256 → 257 ≤ k + n → RD K mX6_copyLabel d 2 [some (rR (14, 0, 0)), some (rI (nI l)), some (rI (nI m)), some (rI (nI k))] [] (lcp D l m k) (fun r0 D0 => r0 = none ∧ D0 = lcp D l m 256) := by
  intro n
  induction n with
  | zero =>
    intro k hk9 hn
    omega
  | succ n ih =>
    intro k hk9 hn
    refine RD.iload_n (pc := 2) dX6_copyLabel_2 rfl ?_
    refine RD.sipush (pc := 3) (v := 256) dX6_copyLabel_3 (by decide) ?_
    refine RD.icmp_ge (pc := 6) 39 dX6_copyLabel_6 (by decide) (fun c6 => ?_) (fun c6 => ?_)
    · have hk8 : k = 256 := by
        have := (nI_leI (a := 256) (b := k) (by decide) (by omega)).mp c6
        omega
      subst hk8
      refine RD.ret (pc := 39) ⟨rfl, dX6_copyLabel_39⟩ ?_
      exact ⟨rfl, rfl⟩
    · have hk : k < 256 := Nat.lt_of_not_le (fun h => c6 (nI_le h (by omega)))
      refine RD.aload_n (pc := 9) dX6_copyLabel_9 rfl ?_
      refine RD.getR (pc := 10) dX6_copyLabel_10 flX6_29 ok14 rfl rfl ?_
      refine RD.sipush (pc := 13) (v := 256) dX6_copyLabel_13 (by decide) ?_
      refine RD.iload_n (pc := 16) dX6_copyLabel_16 rfl ?_
      refine RD.imul (pc := 17) dX6_copyLabel_17 ?_
      refine RD.eqI (pk_mul 256 m) ?_
      refine RD.iload_n (pc := 18) dX6_copyLabel_18 rfl ?_
      refine RD.iadd (pc := 19) dX6_copyLabel_19 ?_
      refine RD.eqI (nI_add (256 * m) k) ?_
      refine RD.aload_n (pc := 20) dX6_copyLabel_20 rfl ?_
      refine RD.getR (pc := 21) dX6_copyLabel_21 flX6_29 ok14 rfl rfl ?_
      refine RD.sipush (pc := 24) (v := 256) dX6_copyLabel_24 (by decide) ?_
      refine RD.iload_n (pc := 27) dX6_copyLabel_27 rfl ?_
      refine RD.imul (pc := 28) dX6_copyLabel_28 ?_
      refine RD.eqI (pk_mul 256 l) ?_
      refine RD.iload_n (pc := 29) dX6_copyLabel_29 rfl ?_
      refine RD.iadd (pc := 30) dX6_copyLabel_30 ?_
      refine RD.eqI (nI_add (256 * l) k) ?_
      refine RD.zL (pc := 31) (n := 35072) ((256 * l) + k) (v := D (15, 6, 0) (256 * l + k)) (lcp_r hlm hk hk9) dX6_copyLabel_31 (ok15 (by decide)) rfl rfl (by omega) (by decide) ?_
      refine RD.zast (pc := 32) (n := 35072) ((256 * m) + k) dX6_copyLabel_32 (ok15 (by decide)) rfl rfl (by omega) (by decide) (isB_nar (hB k hk)) ?_
      refine RD.iinc (pc := 33) (ls' := [some (rR (14, 0, 0)), some (rI (nI l)), some (rI (nI m)), some (rI (nI (k + 1)))]) dX6_copyLabel_33 rfl (nI_1 k) (by decide) rfl ?_
      refine RD.goto (pc := 36) 2 dX6_copyLabel_36 (by decide) ?_
      rw [lcp_s]
      exact ih (k + 1) (by omega) (by omega)

set_option maxRecDepth 20000 in
set_option maxHeartbeats 2000000 in
theorem c_copyLabel (K : EK) (d : Nat) {l m : Nat} (hl : l < 137) (hm : m < 137) (hlm : l ≠ m) (D : DT) (hB : ∀ t, t < 256 → isB (D (15, 6, 0) (256 * l + t))) : CF K mX6_copyLabel d [rR (14, 0, 0), rI (nI l), rI (nI m)] D (none) (lcp D l m 256) := by
  refine CF.of [some (rR (14, 0, 0)), some (rI (nI l)), some (rI (nI m)), none] (by decide) (leb rfl) rfl ?_
  refine RD.iconst (pc := 0) (v := 0) dX6_copyLabel_0 (by decide) ?_
  refine RD.istore_n (pc := 1) (ls' := [some (rR (14, 0, 0)), some (rI (nI l)), some (rI (nI m)), some (rI 0)]) dX6_copyLabel_1 (by decide) rfl ?_
  have h := l_copyLabel K d hl hm hlm D hB 257 0 (by omega) (by omega)
  rw [lcp_0] at h
  exact h
