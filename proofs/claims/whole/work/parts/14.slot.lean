/-- how many files are there, from k on -/
def cfL (D : DT) (i : Nat) : Nat → Nat → Int32 → Int32
  | 0, _, c => c
  | n + 1, k, c => cfL D i n (k + 1) (if D (12, i, k) 2 = 0 then c else c + 1)

set_option maxRecDepth 20000 in
set_option maxHeartbeats 2000000 in
theorem l_countFiles (K : EK) (d : Nat) {i : Nat} (hi : i < 8) (D : DT) : ∀ n (k : Nat) (c : Int32), k + n = 8 → RD K mX2_countFiles d 4 [some (rR (2, i, 0)), some (rI c), some (rI (nI k))] [] D (fun r0 D0 => r0 = some (rI (cfL D i n k c)) ∧ D0 = D) := by
  intro n
  induction n with
  | zero =>
    intro k c hk
    refine RD.iload_n (pc := 4) dX2_countFiles_4 rfl ?_
    refine RD.bipush (pc := 5) (v := 8) dX2_countFiles_5 (by decide) ?_
    refine RD.icmp_ge (pc := 7) 31 dX2_countFiles_7 (by decide) (fun c7 => ?_) (fun c7 => absurd (nI_le (a := 8) (b := k) (by omega) (by omega)) c7)
    refine RD.iload_n (pc := 31) dX2_countFiles_31 rfl ?_
    refine RD.ireturn (pc := 32) dX2_countFiles_32 rfl rfl ?_
    exact ⟨rfl, rfl⟩
  | succ n ih =>
    intro k c hk
    refine RD.iload_n (pc := 4) dX2_countFiles_4 rfl ?_
    refine RD.bipush (pc := 5) (v := 8) dX2_countFiles_5 (by decide) ?_
    refine RD.icmp_ge (pc := 7) 31 dX2_countFiles_7 (by decide) (fun c7 => absurd c7 (nI_ge (a := k) (b := 8) (by omega) (by decide))) (fun c7 => ?_)
    have hk8 : k < 8 := by omega
    refine RD.aload_n (pc := 10) dX2_countFiles_10 rfl ?_
    refine RD.getR (pc := 11) dX2_countFiles_11 flX2_53 (ok2 hi) rfl rfl ?_
    refine RD.iload_n (pc := 14) dX2_countFiles_14 rfl ?_
    refine RD.aald (pc := 15) k dX2_countFiles_15 (ok9 hi) rfl rfl rfl hk8 (by decide) ?_
    refine RD.gI (pc := 16) (v := D (12, i, k) 2) rfl dX2_countFiles_16 flX2_70 (ok12 hi hk8) rfl rfl ?_
    refine RD.if_eq (pc := 19) 25 dX2_countFiles_19 (by decide) (fun c19 => ?_) (fun c19 => ?_)
    · rw [show cfL D i (n + 1) k c = cfL D i n (k + 1) c by simp [cfL, c19]]
      refine RD.iinc (pc := 25) (ls' := [some (rR (2, i, 0)), some (rI c), some (rI (nI (k + 1)))]) dX2_countFiles_25 rfl (nI_1 k) (by decide) rfl ?_
      refine RD.goto (pc := 28) 4 dX2_countFiles_28 (by decide) ?_
      exact ih (k + 1) c (by omega)
    · refine RD.iinc (pc := 22) (ls' := [some (rR (2, i, 0)), some (rI (c + 1)), some (rI (nI k))]) dX2_countFiles_22 rfl rfl (by decide) rfl ?_
      rw [show cfL D i (n + 1) k c = cfL D i n (k + 1) (c + 1) by simp [cfL, c19]]
      refine RD.iinc (pc := 25) (ls' := [some (rR (2, i, 0)), some (rI (c + 1)), some (rI (nI (k + 1)))]) dX2_countFiles_25 rfl (nI_1 k) (by decide) rfl ?_
      refine RD.goto (pc := 28) 4 dX2_countFiles_28 (by decide) ?_
      exact ih (k + 1) (c + 1) (by omega)

set_option maxRecDepth 20000 in
set_option maxHeartbeats 2000000 in
theorem c_countFiles (K : EK) (d : Nat) {i : Nat} (hi : i < 8) (D : DT) : CF K mX2_countFiles d [rR (2, i, 0)] D (some (rI (cfL D i 8 0 0))) D := by
  refine CF.of [some (rR (2, i, 0)), none, none] (by decide) (leb rfl) rfl ?_
  refine RD.iconst (pc := 0) (v := 0) dX2_countFiles_0 (by decide) ?_
  refine RD.istore_n (pc := 1) (ls' := [some (rR (2, i, 0)), some (rI 0), none]) dX2_countFiles_1 (by decide) rfl ?_
  refine RD.iconst (pc := 2) (v := 0) dX2_countFiles_2 (by decide) ?_
  refine RD.istore_n (pc := 3) (ls' := [some (rR (2, i, 0)), some (rI 0), some (rI 0)]) dX2_countFiles_3 (by decide) rfl ?_
  exact l_countFiles K d hi D 8 0 0 rfl


def ntF (D : DT) (i : Nat) : DT := addF (addF (up D (2, i, 0) 6 (D (2, i, 0) 6 + 1)) i 1 (32 * nI i + D (2, i, 0) 6)) i 2 (32 * nI i + D (2, i, 0) 6)

set_option maxRecDepth 20000 in
set_option maxHeartbeats 1000000 in
theorem c_newTag (K : EK) (d : Nat) {i : Nat} (hi : i < 8) (D : DT) (h1 : ¬ 32 ≤ D (2, i, 0) 6) (h2 : ¬ 40 ≤ D (4, i, 1) 1) (h3 : ¬ 40 ≤ D (4, i, 2) 1) : CF K mX2_newTag (d + 2) [rR (2, i, 0)] D (some (rI (32 * nI i + D (2, i, 0) 6))) (ntF D i) := by
  refine CF.of [some (rR (2, i, 0)), none] (by decide) (leb rfl) rfl ?_
  refine RD.aload_n (pc := 0) dX2_newTag_0 rfl ?_
  refine RD.gI (pc := 1) (v := D (2, i, 0) 6) rfl dX2_newTag_1 flX2_28 (ok2 hi) rfl rfl ?_
  refine RD.bipush (pc := 4) (v := 32) dX2_newTag_4 (by decide) ?_
  refine RD.icmp_ge (pc := 6) 33 dX2_newTag_6 (by decide) (fun c6 => absurd c6 h1) (fun c6 => ?_)
  refine RD.aload_n (pc := 9) dX2_newTag_9 rfl ?_
  refine RD.getR (pc := 10) dX2_newTag_10 flX2_38 (ok2 hi) rfl rfl ?_
  refine RD.gI (pc := 13) (v := D (4, i, 1) 1) rfl dX2_newTag_13 flX2_74 (ok4 hi (by decide)) rfl rfl ?_
  refine RD.bipush (pc := 16) (v := 40) dX2_newTag_16 (by decide) ?_
  refine RD.icmp_ge (pc := 18) 33 dX2_newTag_18 (by decide) (fun c18 => absurd c18 h2) (fun c18 => ?_)
  refine RD.aload_n (pc := 21) dX2_newTag_21 rfl ?_
  refine RD.getR (pc := 22) dX2_newTag_22 flX2_41 (ok2 hi) rfl rfl ?_
  refine RD.gI (pc := 25) (v := D (4, i, 2) 1) rfl dX2_newTag_25 flX2_74 (ok4 hi (by decide)) rfl rfl ?_
  refine RD.bipush (pc := 28) (v := 40) dX2_newTag_28 (by decide) ?_
  refine RD.icmp_lt (pc := 30) 35 dX2_newTag_30 (by decide) (fun c30 => ?_) (fun c30 => absurd (i32_nle h3) c30)
  refine RD.bipush (pc := 35) (v := 32) dX2_newTag_35 (by decide) ?_
  refine RD.aload_n (pc := 37) dX2_newTag_37 rfl ?_
  refine RD.getR (pc := 38) dX2_newTag_38 flX2_66 (ok2 hi) rfl rfl ?_
  refine RD.imul (pc := 41) dX2_newTag_41 ?_
  refine RD.aload_n (pc := 42) dX2_newTag_42 rfl ?_
  refine RD.gI (pc := 43) (v := D (2, i, 0) 6) rfl dX2_newTag_43 flX2_28 (ok2 hi) rfl rfl ?_
  refine RD.iadd (pc := 46) dX2_newTag_46 ?_
  refine RD.istore_n (pc := 47) (ls' := [some (rR (2, i, 0)), some (rI ((32 * (nI i)) + (D (2, i, 0) 6)))]) dX2_newTag_47 (by decide) rfl ?_
  refine RD.aload_n (pc := 48) dX2_newTag_48 rfl ?_
  refine RD.dup (pc := 49) dX2_newTag_49 ?_
  refine RD.gI (pc := 50) (v := D (2, i, 0) 6) rfl dX2_newTag_50 flX2_28 (ok2 hi) rfl rfl ?_
  refine RD.iconst (pc := 53) (v := 1) dX2_newTag_53 (by decide) ?_
  refine RD.iadd (pc := 54) dX2_newTag_54 ?_
  refine RD.putf (pc := 55) dX2_newTag_55 fpX2_28 (ok2 hi) rfl rfl rfl rfl ?_
  refine RD.aload_n (pc := 58) dX2_newTag_58 rfl ?_
  refine RD.getR (pc := 59) dX2_newTag_59 flX2_38 (ok2 hi) rfl rfl ?_
  refine RD.iload_n (pc := 62) dX2_newTag_62 rfl ?_
  refine RD.cV1v (pc := 63) dX2_newTag_63 mlX2_77 rfl (ok4 hi (by decide)) rfl (c_add K _ (ok4 hi (by decide)) (up D (2, i, 0) 6 ((D (2, i, 0) 6) + 1)) ((32 * (nI i)) + (D (2, i, 0) 6))) (leb rfl) ?_
  refine RD.aload_n (pc := 66) dX2_newTag_66 rfl ?_
  refine RD.getR (pc := 67) dX2_newTag_67 flX2_41 (ok2 hi) rfl rfl ?_
  refine RD.iload_n (pc := 70) dX2_newTag_70 rfl ?_
  refine RD.cV1v (pc := 71) dX2_newTag_71 mlX2_77 rfl (ok4 hi (by decide)) rfl (c_add K _ (ok4 hi (by decide)) (addF (up D (2, i, 0) 6 ((D (2, i, 0) 6) + 1)) i 1 ((32 * (nI i)) + (D (2, i, 0) 6))) ((32 * (nI i)) + (D (2, i, 0) 6))) (leb rfl) ?_
  refine RD.iload_n (pc := 74) dX2_newTag_74 rfl ?_
  refine RD.ireturn (pc := 75) dX2_newTag_75 rfl rfl ?_
  exact ⟨rfl, rfl⟩

set_option maxRecDepth 20000 in
set_option maxHeartbeats 1000000 in
theorem c_newTagN (K : EK) (d : Nat) {i : Nat} (hi : i < 8) (D : DT) (h : 32 ≤ D (2, i, 0) 6 ∨ 40 ≤ D (4, i, 1) 1 ∨ 40 ≤ D (4, i, 2) 1) : CF K mX2_newTag (d + 2) [rR (2, i, 0)] D (some (rI (-1))) D := by
  refine CF.of [some (rR (2, i, 0)), none] (by decide) (leb rfl) rfl ?_
  refine RD.aload_n (pc := 0) dX2_newTag_0 rfl ?_
  refine RD.gI (pc := 1) (v := D (2, i, 0) 6) rfl dX2_newTag_1 flX2_28 (ok2 hi) rfl rfl ?_
  refine RD.bipush (pc := 4) (v := 32) dX2_newTag_4 (by decide) ?_
  refine RD.icmp_ge (pc := 6) 33 dX2_newTag_6 (by decide) (fun c6 => ?_) (fun c6 => ?_)
  · refine RD.iconst (pc := 33) (v := (-1)) dX2_newTag_33 (by decide) ?_
    refine RD.ireturn (pc := 34) dX2_newTag_34 rfl rfl ?_
    exact ⟨rfl, rfl⟩
  · refine RD.aload_n (pc := 9) dX2_newTag_9 rfl ?_
    refine RD.getR (pc := 10) dX2_newTag_10 flX2_38 (ok2 hi) rfl rfl ?_
    refine RD.gI (pc := 13) (v := D (4, i, 1) 1) rfl dX2_newTag_13 flX2_74 (ok4 hi (by decide)) rfl rfl ?_
    refine RD.bipush (pc := 16) (v := 40) dX2_newTag_16 (by decide) ?_
    refine RD.icmp_ge (pc := 18) 33 dX2_newTag_18 (by decide) (fun c18 => ?_) (fun c18 => ?_)
    · refine RD.iconst (pc := 33) (v := (-1)) dX2_newTag_33 (by decide) ?_
      refine RD.ireturn (pc := 34) dX2_newTag_34 rfl rfl ?_
      exact ⟨rfl, rfl⟩
    · refine RD.aload_n (pc := 21) dX2_newTag_21 rfl ?_
      refine RD.getR (pc := 22) dX2_newTag_22 flX2_41 (ok2 hi) rfl rfl ?_
      refine RD.gI (pc := 25) (v := D (4, i, 2) 1) rfl dX2_newTag_25 flX2_74 (ok4 hi (by decide)) rfl rfl ?_
      refine RD.bipush (pc := 28) (v := 40) dX2_newTag_28 (by decide) ?_
      refine RD.icmp_lt (pc := 30) 35 dX2_newTag_30 (by decide) (fun c30 => ?_) (fun c30 => ?_)
      · exfalso
        rcases h with h | h | h
        · exact c6 h
        · exact c18 h
        · exact Int32.not_le.mpr c30 h
      · refine RD.iconst (pc := 33) (v := (-1)) dX2_newTag_33 (by decide) ?_
        refine RD.ireturn (pc := 34) dX2_newTag_34 rfl rfl ?_
        exact ⟨rfl, rfl⟩


def relC (D : DT) (i i2 j2 : Nat) : Bool := subE (D (5, i2, j2)) (D (5, i, 0)) (D (5, i, 1)) && subE (D (5, i, 0)) (D (5, i2, j2)) (D (5, i, 2))

set_option maxRecDepth 20000 in
set_option maxHeartbeats 1000000 in
theorem c_relabel (K : EK) (d : Nat) {i i2 j2 : Nat} (hi : i < 8) (hok2 : okA (4, i2, j2)) (D : DT) : CF K mX2_relabel (d + 1) [rR (2, i, 0), rR (4, i2, j2)] D (some (rI (bI (relC D i i2 j2)))) (if relC D i i2 j2 = true then cpyF D i 0 i2 j2 else D) := by
  refine CF.of [some (rR (2, i, 0)), some (rR (4, i2, j2))] (by decide) (leb rfl) rfl ?_
  refine RD.aload_n (pc := 0) dX2_relabel_0 rfl ?_
  refine RD.aload_n (pc := 1) dX2_relabel_1 rfl ?_
  refine RD.getR (pc := 2) dX2_relabel_2 flX2_34 (ok2 hi) rfl rfl ?_
  refine RD.aload_n (pc := 5) dX2_relabel_5 rfl ?_
  refine RD.getR (pc := 6) dX2_relabel_6 flX2_38 (ok2 hi) rfl rfl ?_
  refine RD.cV2 (pc := 9) dX2_relabel_9 mlX2_81 rfl hok2 rfl (c_isInEither K _ hok2 (ok4 hi (by decide)) (ok4 hi (by decide)) D) (leb rfl) ?_
  refine RD.if_eq (pc := 12) 30 dX2_relabel_12 (by decide) (fun c12 => ?_) (fun c12 => ?_)
  · refine RD.iconst (pc := 30) (v := 0) dX2_relabel_30 (by decide) ?_
    refine RD.ireturn (pc := 31) dX2_relabel_31 rfl rfl ?_
    exact ⟨by simp [relC, bI_0 c12, bI], by simp [relC, bI_0 c12]⟩
  · refine RD.aload_n (pc := 15) dX2_relabel_15 rfl ?_
    refine RD.getR (pc := 16) dX2_relabel_16 flX2_34 (ok2 hi) rfl rfl ?_
    refine RD.aload_n (pc := 19) dX2_relabel_19 rfl ?_
    refine RD.aload_n (pc := 20) dX2_relabel_20 rfl ?_
    refine RD.getR (pc := 21) dX2_relabel_21 flX2_41 (ok2 hi) rfl rfl ?_
    refine RD.cV2 (pc := 24) dX2_relabel_24 mlX2_81 rfl (ok4 hi (by decide)) rfl (c_isInEither K _ (ok4 hi (by decide)) hok2 (ok4 hi (by decide)) D) (leb rfl) ?_
    refine RD.if_ne (pc := 27) 32 dX2_relabel_27 (by decide) (fun c27 => ?_) (fun c27 => ?_)
    · refine RD.aload_n (pc := 32) dX2_relabel_32 rfl ?_
      refine RD.getR (pc := 33) dX2_relabel_33 flX2_34 (ok2 hi) rfl rfl ?_
      refine RD.aload_n (pc := 36) dX2_relabel_36 rfl ?_
      refine RD.cV1v (pc := 37) dX2_relabel_37 mlX2_85 rfl (ok4 hi (by decide)) rfl (c_copy K _ (ok4 hi (by decide)) hok2 D) (leb rfl) ?_
      refine RD.iconst (pc := 40) (v := 1) dX2_relabel_40 (by decide) ?_
      refine RD.ireturn (pc := 41) dX2_relabel_41 rfl rfl ?_
      exact ⟨by simp [relC, bI_1 c12, bI_1 c27, bI], by simp [relC, bI_1 c12, bI_1 c27]⟩
    · refine RD.iconst (pc := 30) (v := 0) dX2_relabel_30 (by decide) ?_
      refine RD.ireturn (pc := 31) dX2_relabel_31 rfl rfl ?_
      exact ⟨by simp [relC, bI_1 c12, bI_0 c27, bI], by simp [relC, bI_1 c12, bI_0 c27]⟩

set_option maxRecDepth 20000 in
set_option maxHeartbeats 1000000 in
theorem c_drop0 (K : EK) (d : Nat) {i : Nat} (hi : i < 8) (D : DT) (t : Int32) : CF K mX2_dropCapability (d + 2) [rR (2, i, 0), rI 0, rI t] D (some (rI (bI (hasF (D (5, i, 1)) t)))) (remF D i 1 t) := by
  refine CF.of [some (rR (2, i, 0)), some (rI 0), some (rI t), none] (by decide) (leb rfl) rfl ?_
  refine RD.aload_n (pc := 0) dX2_dropCapability_0 rfl ?_
  refine RD.iload_n (pc := 1) dX2_dropCapability_1 rfl ?_
  refine RD.cS1 (pc := 2) dX2_dropCapability_2 mlX2_89 (c_kindOf0 K _ D) (leb rfl) ?_
  refine RD.cV1 (pc := 5) dX2_dropCapability_5 mlX2_93 rfl (ok2 hi) rfl (c_cap0 K _ hi D) (leb rfl) ?_
  refine RD.astore_n (pc := 8) (ls' := [some (rR (2, i, 0)), some (rI 0), some (rI t), some (rR (4, i, 1))]) dX2_dropCapability_8 (by decide) rfl ?_
  refine RD.aload_n (pc := 9) dX2_dropCapability_9 rfl ?_
  refine RD.iload_n (pc := 10) dX2_dropCapability_10 rfl ?_
  refine RD.cV1 (pc := 11) dX2_dropCapability_11 mlX2_97 rfl (ok4 hi (by decide)) rfl (c_has K _ (ok4 hi (by decide)) D t) (leb rfl) ?_
  refine RD.if_ne (pc := 14) 19 dX2_dropCapability_14 (by decide) (fun c14 => ?_) (fun c14 => ?_)
  · refine RD.aload_n (pc := 19) dX2_dropCapability_19 rfl ?_
    refine RD.iload_n (pc := 20) dX2_dropCapability_20 rfl ?_
    refine RD.cV1v (pc := 21) dX2_dropCapability_21 mlX2_101 rfl (ok4 hi (by decide)) rfl (c_remove K _ (ok4 hi (by decide)) D t) (leb rfl) ?_
    refine RD.iconst (pc := 24) (v := 1) dX2_dropCapability_24 (by decide) ?_
    refine RD.ireturn (pc := 25) dX2_dropCapability_25 rfl rfl ?_
    exact ⟨by rw [bI_1 c14]; rfl, rfl⟩
  · refine RD.iconst (pc := 17) (v := 0) dX2_dropCapability_17 (by decide) ?_
    refine RD.ireturn (pc := 18) dX2_dropCapability_18 rfl rfl ?_
    exact ⟨by rw [c14], (remF_not (bI_0 c14)).symm⟩

set_option maxRecDepth 20000 in
set_option maxHeartbeats 1000000 in
theorem c_drop1 (K : EK) (d : Nat) {i : Nat} (hi : i < 8) (D : DT) {b : Int32} (hb : ¬ b = 0) (t : Int32) : CF K mX2_dropCapability (d + 2) [rR (2, i, 0), rI b, rI t] D (some (rI (bI (hasF (D (5, i, 2)) t)))) (remF D i 2 t) := by
  refine CF.of [some (rR (2, i, 0)), some (rI b), some (rI t), none] (by decide) (leb rfl) rfl ?_
  refine RD.aload_n (pc := 0) dX2_dropCapability_0 rfl ?_
  refine RD.iload_n (pc := 1) dX2_dropCapability_1 rfl ?_
  refine RD.cS1 (pc := 2) dX2_dropCapability_2 mlX2_89 (c_kindOf1 K _ D hb) (leb rfl) ?_
  refine RD.cV1 (pc := 5) dX2_dropCapability_5 mlX2_93 rfl (ok2 hi) rfl (c_cap1 K _ hi D (by decide)) (leb rfl) ?_
  refine RD.astore_n (pc := 8) (ls' := [some (rR (2, i, 0)), some (rI b), some (rI t), some (rR (4, i, 2))]) dX2_dropCapability_8 (by decide) rfl ?_
  refine RD.aload_n (pc := 9) dX2_dropCapability_9 rfl ?_
  refine RD.iload_n (pc := 10) dX2_dropCapability_10 rfl ?_
  refine RD.cV1 (pc := 11) dX2_dropCapability_11 mlX2_97 rfl (ok4 hi (by decide)) rfl (c_has K _ (ok4 hi (by decide)) D t) (leb rfl) ?_
  refine RD.if_ne (pc := 14) 19 dX2_dropCapability_14 (by decide) (fun c14 => ?_) (fun c14 => ?_)
  · refine RD.aload_n (pc := 19) dX2_dropCapability_19 rfl ?_
    refine RD.iload_n (pc := 20) dX2_dropCapability_20 rfl ?_
    refine RD.cV1v (pc := 21) dX2_dropCapability_21 mlX2_101 rfl (ok4 hi (by decide)) rfl (c_remove K _ (ok4 hi (by decide)) D t) (leb rfl) ?_
    refine RD.iconst (pc := 24) (v := 1) dX2_dropCapability_24 (by decide) ?_
    refine RD.ireturn (pc := 25) dX2_dropCapability_25 rfl rfl ?_
    exact ⟨by rw [bI_1 c14]; rfl, rfl⟩
  · refine RD.iconst (pc := 17) (v := 0) dX2_dropCapability_17 (by decide) ?_
    refine RD.ireturn (pc := 18) dX2_dropCapability_18 rfl rfl ?_
    exact ⟨by rw [c14], (remF_not (bI_0 c14)).symm⟩


def lfr (D : DT) (i : Nat) : Nat → Nat → Option Nat
  | 0, _ => none
  | n + 1, k => if D (12, i, k) 2 = 0 then some k else lfr D i n (k + 1)
theorem lfr_lt {D : DT} {i : Nat} : ∀ {n k q : Nat}, lfr D i n k = some q → k ≤ q ∧ q < k + n
  | 0, k, q, h => by cases h
  | n + 1, k, q, h => by
    unfold lfr at h
    split at h
    · cases h; omega
    · have := lfr_lt h; omega
def crR (i : Nat) : Option Nat → Int32
  | none => -1
  | some k => 8 * nI i + nI k
def crD (D : DT) (i i2 j2 : Nat) : Option Nat → DT
  | none => D
  | some k => cpyF (up D (12, i, k) 2 1) i (11 + k) i2 j2

set_option maxRecDepth 20000 in
set_option maxHeartbeats 2000000 in
theorem l_createFile (K : EK) (d : Nat) {i i2 j2 : Nat} (hi : i < 8) (hok2 : okA (4, i2, j2)) (D : DT) : ∀ n (k : Nat), k + n = 8 → RD K mX2_createFile (d + 2) 15 [some (rR (2, i, 0)), some (rR (4, i2, j2)), some (rI (nI k))] [] D (fun r0 D0 => r0 = some (rI (crR i (lfr D i n k))) ∧ D0 = crD D i i2 j2 (lfr D i n k)) := by
  intro n
  induction n with
  | zero =>
    intro k hk
    refine RD.iload_n (pc := 15) dX2_createFile_15 rfl ?_
    refine RD.bipush (pc := 16) (v := 8) dX2_createFile_16 (by decide) ?_
    refine RD.icmp_ge (pc := 18) 72 dX2_createFile_18 (by decide) (fun c7 => ?_) (fun c7 => absurd (nI_le (a := 8) (b := k) (by omega) (by omega)) c7)
    refine RD.iconst (pc := 72) (v := (-1)) dX2_createFile_72 (by decide) ?_
    refine RD.ireturn (pc := 73) dX2_createFile_73 rfl rfl ?_
    exact ⟨rfl, rfl⟩
  | succ n ih =>
    intro k hk
    refine RD.iload_n (pc := 15) dX2_createFile_15 rfl ?_
    refine RD.bipush (pc := 16) (v := 8) dX2_createFile_16 (by decide) ?_
    refine RD.icmp_ge (pc := 18) 72 dX2_createFile_18 (by decide) (fun c18 => absurd c18 (nI_ge (a := k) (b := 8) (by omega) (by decide))) (fun c18 => ?_)
    have hk8 : k < 8 := by omega
    refine RD.aload_n (pc := 21) dX2_createFile_21 rfl ?_
    refine RD.getR (pc := 22) dX2_createFile_22 flX2_53 (ok2 hi) rfl rfl ?_
    refine RD.iload_n (pc := 25) dX2_createFile_25 rfl ?_
    refine RD.aald (pc := 26) k dX2_createFile_26 (ok9 hi) rfl rfl rfl hk8 (by decide) ?_
    refine RD.gI (pc := 27) (v := D (12, i, k) 2) rfl dX2_createFile_27 flX2_70 (ok12 hi hk8) rfl rfl ?_
    refine RD.if_ne (pc := 30) 66 dX2_createFile_30 (by decide) (fun c30 => ?_) (fun c30 => ?_)
    · rw [show lfr D i (n + 1) k = lfr D i n (k + 1) by simp [lfr, c30]]
      refine RD.iinc (pc := 66) (ls' := [some (rR (2, i, 0)), some (rR (4, i2, j2)), some (rI (nI (k + 1)))]) dX2_createFile_66 rfl (nI_1 k) (by decide) rfl ?_
      refine RD.goto (pc := 69) 15 dX2_createFile_69 (by decide) ?_
      exact ih (k + 1) (by omega)
    · rw [show lfr D i (n + 1) k = some k by simp [lfr, c30]]
      refine RD.aload_n (pc := 33) dX2_createFile_33 rfl ?_
      refine RD.getR (pc := 34) dX2_createFile_34 flX2_53 (ok2 hi) rfl rfl ?_
      refine RD.iload_n (pc := 37) dX2_createFile_37 rfl ?_
      refine RD.aald (pc := 38) k dX2_createFile_38 (ok9 hi) rfl rfl rfl hk8 (by decide) ?_
      refine RD.iconst (pc := 39) (v := 1) dX2_createFile_39 (by decide) ?_
      refine RD.putf (pc := 40) dX2_createFile_40 fpX2_70 (ok12 hi hk8) rfl rfl rfl rfl ?_
      refine RD.aload_n (pc := 43) dX2_createFile_43 rfl ?_
      refine RD.getR (pc := 44) dX2_createFile_44 flX2_53 (ok2 hi) rfl rfl ?_
      refine RD.iload_n (pc := 47) dX2_createFile_47 rfl ?_
      refine RD.aald (pc := 48) k dX2_createFile_48 (ok9 hi) rfl rfl rfl hk8 (by decide) ?_
      refine RD.getR (pc := 49) dX2_createFile_49 flX2_127 (ok12 hi hk8) rfl rfl ?_
      refine RD.aload_n (pc := 52) dX2_createFile_52 rfl ?_
      refine RD.cV1v (pc := 53) dX2_createFile_53 mlX2_85 rfl (ok4 hi (by omega)) rfl (c_copy K _ (ok4 hi (by omega)) hok2 (up D (12, i, k) 2 1)) (leb rfl) ?_
      refine RD.bipush (pc := 56) (v := 8) dX2_createFile_56 (by decide) ?_
      refine RD.aload_n (pc := 58) dX2_createFile_58 rfl ?_
      refine RD.getR (pc := 59) dX2_createFile_59 flX2_66 (ok2 hi) rfl rfl ?_
      refine RD.imul (pc := 62) dX2_createFile_62 ?_
      refine RD.iload_n (pc := 63) dX2_createFile_63 rfl ?_
      refine RD.iadd (pc := 64) dX2_createFile_64 ?_
      refine RD.ireturn (pc := 65) dX2_createFile_65 rfl rfl ?_
      exact ⟨rfl, rfl⟩

set_option maxRecDepth 20000 in
set_option maxHeartbeats 1000000 in
theorem c_createFileN (K : EK) (d : Nat) {i i2 j2 : Nat} (hi : i < 8) (hok2 : okA (4, i2, j2)) (D : DT) (h : subB (D (5, i, 0)) (D (5, i2, j2)) = false) : CF K mX2_createFile (d + 2) [rR (2, i, 0), rR (4, i2, j2)] D (some (rI (-1))) D := by
  refine CF.of [some (rR (2, i, 0)), some (rR (4, i2, j2)), none] (by decide) (leb rfl) rfl ?_
  refine RD.aload_n (pc := 0) dX2_createFile_0 rfl ?_
  refine RD.getR (pc := 1) dX2_createFile_1 flX2_34 (ok2 hi) rfl rfl ?_
  refine RD.aload_n (pc := 4) dX2_createFile_4 rfl ?_
  refine RD.cV1 (pc := 5) dX2_createFile_5 mlX2_123 rfl (ok4 hi (by decide)) rfl (c_isIn K _ (ok4 hi (by decide)) hok2 D) (leb rfl) ?_
  refine RD.if_ne (pc := 8) 13 dX2_createFile_8 (by decide) (fun c8 => absurd (by rw [h]; rfl) c8) (fun c8 => ?_)
  refine RD.iconst (pc := 11) (v := (-1)) dX2_createFile_11 (by decide) ?_
  refine RD.ireturn (pc := 12) dX2_createFile_12 rfl rfl ?_
  exact ⟨rfl, rfl⟩

set_option maxRecDepth 20000 in
set_option maxHeartbeats 1000000 in
theorem c_createFile (K : EK) (d : Nat) {i i2 j2 : Nat} (hi : i < 8) (hok2 : okA (4, i2, j2)) (D : DT) (h : subB (D (5, i, 0)) (D (5, i2, j2)) = true) : CF K mX2_createFile (d + 2) [rR (2, i, 0), rR (4, i2, j2)] D (some (rI (crR i (lfr D i 8 0)))) (crD D i i2 j2 (lfr D i 8 0)) := by
  refine CF.of [some (rR (2, i, 0)), some (rR (4, i2, j2)), none] (by decide) (leb rfl) rfl ?_
  refine RD.aload_n (pc := 0) dX2_createFile_0 rfl ?_
  refine RD.getR (pc := 1) dX2_createFile_1 flX2_34 (ok2 hi) rfl rfl ?_
  refine RD.aload_n (pc := 4) dX2_createFile_4 rfl ?_
  refine RD.cV1 (pc := 5) dX2_createFile_5 mlX2_123 rfl (ok4 hi (by decide)) rfl (c_isIn K _ (ok4 hi (by decide)) hok2 D) (leb rfl) ?_
  refine RD.if_ne (pc := 8) 13 dX2_createFile_8 (by decide) (fun c8 => ?_) (fun c8 => absurd c8 (by rw [h]; decide))
  refine RD.iconst (pc := 13) (v := 0) dX2_createFile_13 (by decide) ?_
  refine RD.istore_n (pc := 14) (ls' := [some (rR (2, i, 0)), some (rR (4, i2, j2)), some (rI 0)]) dX2_createFile_14 (by decide) rfl ?_
  exact l_createFile K d hi hok2 D 8 0 rfl


def outF (D : DT) (i w : Nat) (v : Int32) : DT := up (up (up D (10, i, 0) w v) (11, i, 0) w (D (4, i, 0) 1)) (2, i, 0) 14 (nI w + 1)

set_option maxRecDepth 20000 in
set_option maxHeartbeats 1000000 in
theorem c_addOutput (K : EK) (d : Nat) {i : Nat} (hi : i < 8) (D : DT) (v : Int32) {w : Nat} (hw : D (2, i, 0) 14 = nI w) (hw64 : w < 64) : CF K mX2_addOutput d [rR (2, i, 0), rI v] D (some (rI 1)) (outF D i w v) := by
  refine CF.of [some (rR (2, i, 0)), some (rI v)] (by decide) (leb rfl) rfl ?_
  refine RD.aload_n (pc := 0) dX2_addOutput_0 rfl ?_
  refine RD.gI (pc := 1) (v := nI w) hw dX2_addOutput_1 flX2_63 (ok2 hi) rfl rfl ?_
  refine RD.bipush (pc := 4) (v := 64) dX2_addOutput_4 (by decide) ?_
  refine RD.icmp_ge (pc := 6) 45 dX2_addOutput_6 (by decide) (fun c6 => absurd c6 (nI_ge (a := w) (b := 64) hw64 (by decide))) (fun c6 => ?_)
  refine RD.aload_n (pc := 9) dX2_addOutput_9 rfl ?_
  refine RD.getR (pc := 10) dX2_addOutput_10 flX2_57 (ok2 hi) rfl rfl ?_
  refine RD.aload_n (pc := 13) dX2_addOutput_13 rfl ?_
  refine RD.gI (pc := 14) (v := nI w) hw dX2_addOutput_14 flX2_63 (ok2 hi) rfl rfl ?_
  refine RD.iload_n (pc := 17) dX2_addOutput_17 rfl ?_
  refine RD.iast (pc := 18) (n := 64) w dX2_addOutput_18 (ok10 hi) rfl rfl hw64 (by decide) ?_
  refine RD.aload_n (pc := 19) dX2_addOutput_19 rfl ?_
  refine RD.getR (pc := 20) dX2_addOutput_20 flX2_60 (ok2 hi) rfl rfl ?_
  refine RD.aload_n (pc := 23) dX2_addOutput_23 rfl ?_
  refine RD.gI (pc := 24) (v := nI w) (up_N (by simp) hw) dX2_addOutput_24 flX2_63 (ok2 hi) rfl rfl ?_
  refine RD.aload_n (pc := 27) dX2_addOutput_27 rfl ?_
  refine RD.getR (pc := 28) dX2_addOutput_28 flX2_34 (ok2 hi) rfl rfl ?_
  refine RD.gI (pc := 31) (v := D (4, i, 0) 1) (up_N (by simp) rfl) dX2_addOutput_31 flX2_74 (ok4 hi (by decide)) rfl rfl ?_
  refine RD.iast (pc := 34) (n := 64) w dX2_addOutput_34 (ok11 hi) rfl rfl hw64 (by decide) ?_
  refine RD.aload_n (pc := 35) dX2_addOutput_35 rfl ?_
  refine RD.dup (pc := 36) dX2_addOutput_36 ?_
  refine RD.gI (pc := 37) (v := nI w) (up_N (by simp) (up_N (by simp) hw)) dX2_addOutput_37 flX2_63 (ok2 hi) rfl rfl ?_
  refine RD.iconst (pc := 40) (v := 1) dX2_addOutput_40 (by decide) ?_
  refine RD.iadd (pc := 41) dX2_addOutput_41 ?_
  refine RD.putf (pc := 42) dX2_addOutput_42 fpX2_63 (ok2 hi) rfl rfl rfl rfl ?_
  refine RD.iconst (pc := 45) (v := 1) dX2_addOutput_45 (by decide) ?_
  refine RD.ireturn (pc := 46) dX2_addOutput_46 rfl rfl ?_
  exact ⟨rfl, rfl⟩

set_option maxRecDepth 20000 in
set_option maxHeartbeats 1000000 in
theorem c_addOutputN (K : EK) (d : Nat) {i : Nat} (hi : i < 8) (D : DT) (v : Int32) {w : Nat} (hw : D (2, i, 0) 14 = nI w) (hw64 : w = 64) : CF K mX2_addOutput d [rR (2, i, 0), rI v] D (some (rI 1)) D := by
  refine CF.of [some (rR (2, i, 0)), some (rI v)] (by decide) (leb rfl) rfl ?_
  refine RD.aload_n (pc := 0) dX2_addOutput_0 rfl ?_
  refine RD.gI (pc := 1) (v := nI w) hw dX2_addOutput_1 flX2_63 (ok2 hi) rfl rfl ?_
  refine RD.bipush (pc := 4) (v := 64) dX2_addOutput_4 (by decide) ?_
  refine RD.icmp_ge (pc := 6) 45 dX2_addOutput_6 (by decide) (fun c6 => ?_) (fun c6 => absurd (by rw [hw64]; decide) c6)
  refine RD.iconst (pc := 45) (v := 1) dX2_addOutput_45 (by decide) ?_
  refine RD.ireturn (pc := 46) dX2_addOutput_46 rfl rfl ?_
  exact ⟨rfl, rfl⟩


def rcv1 (D : DT) (i q p z : Nat) : DT := up (up (qst D i p z) (3, i, 0) 120 (D (8, i, q) 2)) (3, i, 0) 121 (D (8, i, q) 1)

set_option maxRecDepth 20000 in
set_option maxHeartbeats 1000000 in
theorem c_receive0 (K : EK) (d : Nat) {i : Nat} (hi : i < 8) (D : DT) {p z : Nat} (hp : p < 8) (hz8 : z ≤ 8) (hf : D (6, i, 0) 1 = nI p) (hz : D (6, i, 0) 2 = nI z) (ht : (tk (tkc D i i 0) p z).1 = none) : CF K mX2_receive (d + 3) [rR (2, i, 0)] D (some (rI 0)) (qst D i (tk (tkc D i i 0) p z).2.1 (tk (tkc D i i 0) p z).2.2) := by
  refine CF.of [some (rR (2, i, 0)), none] (by decide) (leb rfl) rfl ?_
  refine RD.aload_n (pc := 0) dX2_receive_0 rfl ?_
  refine RD.getR (pc := 1) dX2_receive_1 flX2_47 (ok2 hi) rfl rfl ?_
  refine RD.aload_n (pc := 4) dX2_receive_4 rfl ?_
  refine RD.getR (pc := 5) dX2_receive_5 flX2_34 (ok2 hi) rfl rfl ?_
  refine RD.cV1 (pc := 8) dX2_receive_8 mlX2_104 rfl (ok6 hi) rfl ((c_take K _ hi (ok4 hi (by decide)) D hp hz8 hf hz).to (show _ = some rN by rw [ht]; rfl) rfl) (leb rfl) ?_
  refine RD.astore_n (pc := 11) (ls' := [some (rR (2, i, 0)), some (rN)]) dX2_receive_11 (by decide) rfl ?_
  refine RD.aload_n (pc := 12) dX2_receive_12 rfl ?_
  refine RD.ifnonnull (pc := 13) 18 dX2_receive_13 (by decide) (fun _ c13 => nomatch c13) (fun _ => ?_)
  refine RD.iconst (pc := 16) (v := 0) dX2_receive_16 (by decide) ?_
  refine RD.ireturn (pc := 17) dX2_receive_17 rfl rfl ?_
  exact ⟨rfl, rfl⟩

set_option maxRecDepth 20000 in
set_option maxHeartbeats 1000000 in
theorem c_receive1 (K : EK) (d : Nat) {i : Nat} (hi : i < 8) (D : DT) {p z : Nat} (hp : p < 8) (hz8 : z ≤ 8) (hf : D (6, i, 0) 1 = nI p) (hz : D (6, i, 0) 2 = nI z) {q : Nat} (ht : (tk (tkc D i i 0) p z).1 = some q) (hk : D (8, i, q) 3 = (-1)) : CF K mX2_receive (d + 3) [rR (2, i, 0)] D (some (rI 1)) (rcv1 D i q (tk (tkc D i i 0) p z).2.1 (tk (tkc D i i 0) p z).2.2) := by
  refine CF.of [some (rR (2, i, 0)), none] (by decide) (leb rfl) rfl ?_
  have hq : q < 8 := (tk_lt (tkc D i i 0) z p hp).2.2 q ht
  refine RD.aload_n (pc := 0) dX2_receive_0 rfl ?_
  refine RD.getR (pc := 1) dX2_receive_1 flX2_47 (ok2 hi) rfl rfl ?_
  refine RD.aload_n (pc := 4) dX2_receive_4 rfl ?_
  refine RD.getR (pc := 5) dX2_receive_5 flX2_34 (ok2 hi) rfl rfl ?_
  refine RD.cV1 (pc := 8) dX2_receive_8 mlX2_104 rfl (ok6 hi) rfl ((c_take K _ hi (ok4 hi (by decide)) D hp hz8 hf hz).to (show _ = some (rR (8, i, q)) by rw [ht]; rfl) rfl) (leb rfl) ?_
  refine RD.astore_n (pc := 11) (ls' := [some (rR (2, i, 0)), some (rR (8, i, q))]) dX2_receive_11 (by decide) rfl ?_
  refine RD.aload_n (pc := 12) dX2_receive_12 rfl ?_
  refine RD.ifnonnull (pc := 13) 18 dX2_receive_13 (by decide) (fun _ _ => ?_) (fun c13 => nomatch c13)
  refine RD.aload_n (pc := 18) dX2_receive_18 rfl ?_
  refine RD.getR (pc := 19) dX2_receive_19 flX2_9 (ok2 hi) rfl rfl ?_
  refine RD.bipush (pc := 22) (v := 120) dX2_receive_22 (by decide) ?_
  refine RD.aload_n (pc := 24) dX2_receive_24 rfl ?_
  refine RD.gI (pc := 25) (v := D (8, i, q) 2) ((congrFun (qst_o (by simp)) _).trans rfl) dX2_receive_25 flX2_108 (ok8 hi hq) rfl rfl ?_
  refine RD.iast (pc := 28) (n := 128) 120 dX2_receive_28 (ok3 hi) rfl rfl (by decide) (by decide) ?_
  refine RD.aload_n (pc := 29) dX2_receive_29 rfl ?_
  refine RD.getR (pc := 30) dX2_receive_30 flX2_9 (ok2 hi) rfl rfl ?_
  refine RD.bipush (pc := 33) (v := 121) dX2_receive_33 (by decide) ?_
  refine RD.aload_n (pc := 35) dX2_receive_35 rfl ?_
  refine RD.gI (pc := 36) (v := D (8, i, q) 1) (up_N (by simp) ((congrFun (qst_o (by simp)) _).trans rfl)) dX2_receive_36 flX2_113 (ok8 hi hq) rfl rfl ?_
  refine RD.iast (pc := 39) (n := 128) 121 dX2_receive_39 (ok3 hi) rfl rfl (by decide) (by decide) ?_
  refine RD.aload_n (pc := 40) dX2_receive_40 rfl ?_
  refine RD.gI (pc := 41) (v := D (8, i, q) 3) (up_N (by simp) (up_N (by simp) ((congrFun (qst_o (by simp)) _).trans rfl))) dX2_receive_41 flX2_116 (ok8 hi hq) rfl rfl ?_
  refine RD.iconst (pc := 44) (v := (-1)) dX2_receive_44 (by decide) ?_
  refine RD.icmp_ne (pc := 45) 50 dX2_receive_45 (by decide) (fun c45 => absurd hk c45) (fun c45 => ?_)
  refine RD.iconst (pc := 48) (v := 1) dX2_receive_48 (by decide) ?_
  refine RD.ireturn (pc := 49) dX2_receive_49 rfl rfl ?_
  exact ⟨rfl, rfl⟩

set_option maxRecDepth 20000 in
set_option maxHeartbeats 1000000 in
theorem c_receive2 (K : EK) (d : Nat) {i : Nat} (hi : i < 8) (D : DT) {p z : Nat} (hp : p < 8) (hz8 : z ≤ 8) (hf : D (6, i, 0) 1 = nI p) (hz : D (6, i, 0) 2 = nI z) {q : Nat} (ht : (tk (tkc D i i 0) p z).1 = some q) (hk : D (8, i, q) 3 = 0) : CF K mX2_receive (d + 3) [rR (2, i, 0)] D (some (rI 2)) (chgD (rcv1 D i q (tk (tkc D i i 0) p z).2.1 (tk (tkc D i i 0) p z).2.2) i 1 (D (8, i, q) 2) 1 40) := by
  refine CF.of [some (rR (2, i, 0)), none] (by decide) (leb rfl) rfl ?_
  have hq : q < 8 := (tk_lt (tkc D i i 0) z p hp).2.2 q ht
  refine RD.aload_n (pc := 0) dX2_receive_0 rfl ?_
  refine RD.getR (pc := 1) dX2_receive_1 flX2_47 (ok2 hi) rfl rfl ?_
  refine RD.aload_n (pc := 4) dX2_receive_4 rfl ?_
  refine RD.getR (pc := 5) dX2_receive_5 flX2_34 (ok2 hi) rfl rfl ?_
  refine RD.cV1 (pc := 8) dX2_receive_8 mlX2_104 rfl (ok6 hi) rfl ((c_take K _ hi (ok4 hi (by decide)) D hp hz8 hf hz).to (show _ = some (rR (8, i, q)) by rw [ht]; rfl) rfl) (leb rfl) ?_
  refine RD.astore_n (pc := 11) (ls' := [some (rR (2, i, 0)), some (rR (8, i, q))]) dX2_receive_11 (by decide) rfl ?_
  refine RD.aload_n (pc := 12) dX2_receive_12 rfl ?_
  refine RD.ifnonnull (pc := 13) 18 dX2_receive_13 (by decide) (fun _ _ => ?_) (fun c13 => nomatch c13)
  refine RD.aload_n (pc := 18) dX2_receive_18 rfl ?_
  refine RD.getR (pc := 19) dX2_receive_19 flX2_9 (ok2 hi) rfl rfl ?_
  refine RD.bipush (pc := 22) (v := 120) dX2_receive_22 (by decide) ?_
  refine RD.aload_n (pc := 24) dX2_receive_24 rfl ?_
  refine RD.gI (pc := 25) (v := D (8, i, q) 2) ((congrFun (qst_o (by simp)) _).trans rfl) dX2_receive_25 flX2_108 (ok8 hi hq) rfl rfl ?_
  refine RD.iast (pc := 28) (n := 128) 120 dX2_receive_28 (ok3 hi) rfl rfl (by decide) (by decide) ?_
  refine RD.aload_n (pc := 29) dX2_receive_29 rfl ?_
  refine RD.getR (pc := 30) dX2_receive_30 flX2_9 (ok2 hi) rfl rfl ?_
  refine RD.bipush (pc := 33) (v := 121) dX2_receive_33 (by decide) ?_
  refine RD.aload_n (pc := 35) dX2_receive_35 rfl ?_
  refine RD.gI (pc := 36) (v := D (8, i, q) 1) (up_N (by simp) ((congrFun (qst_o (by simp)) _).trans rfl)) dX2_receive_36 flX2_113 (ok8 hi hq) rfl rfl ?_
  refine RD.iast (pc := 39) (n := 128) 121 dX2_receive_39 (ok3 hi) rfl rfl (by decide) (by decide) ?_
  refine RD.aload_n (pc := 40) dX2_receive_40 rfl ?_
  refine RD.gI (pc := 41) (v := D (8, i, q) 3) (up_N (by simp) (up_N (by simp) ((congrFun (qst_o (by simp)) _).trans rfl))) dX2_receive_41 flX2_116 (ok8 hi hq) rfl rfl ?_
  refine RD.iconst (pc := 44) (v := (-1)) dX2_receive_44 (by decide) ?_
  refine RD.icmp_ne (pc := 45) 50 dX2_receive_45 (by decide) (fun c45 => ?_) (fun c45 => absurd c45 (by rw [hk]; decide))
  refine RD.aload_n (pc := 50) dX2_receive_50 rfl ?_
  refine RD.aload_n (pc := 51) dX2_receive_51 rfl ?_
  refine RD.gI (pc := 52) (v := D (8, i, q) 3) (up_N (by simp) (up_N (by simp) ((congrFun (qst_o (by simp)) _).trans rfl))) dX2_receive_52 flX2_116 (ok8 hi hq) rfl rfl ?_
  refine RD.cV1 (pc := 55) dX2_receive_55 mlX2_93 rfl (ok2 hi) rfl (by rw [hk]; exact c_cap0 K _ hi _) (leb rfl) ?_
  refine RD.aload_n (pc := 58) dX2_receive_58 rfl ?_
  refine RD.gI (pc := 59) (v := D (8, i, q) 2) (up_N (by simp) (up_N (by simp) ((congrFun (qst_o (by simp)) _).trans rfl))) dX2_receive_59 flX2_108 (ok8 hi hq) rfl rfl ?_
  refine RD.iconst (pc := 62) (v := 1) dX2_receive_62 (by decide) ?_
  refine RD.bipush (pc := 63) (v := 40) dX2_receive_63 (by decide) ?_
  refine RD.cV3 (pc := 65) dX2_receive_65 mlX2_119 rfl (ok4 hi (by decide)) rfl (c_change K _ (ok4 hi (by decide)) (up (up (qst D i (tk (tkc D i i 0) p z).2.1 (tk (tkc D i i 0) p z).2.2) (3, i, 0) 120 (D (8, i, q) 2)) (3, i, 0) 121 (D (8, i, q) 1)) (D (8, i, q) 2) 1 40) (leb rfl) ?_
  refine RD.pop (pc := 68) dX2_receive_68 ?_
  refine RD.iconst (pc := 69) (v := 2) dX2_receive_69 (by decide) ?_
  refine RD.ireturn (pc := 70) dX2_receive_70 rfl rfl ?_
  exact ⟨rfl, rfl⟩

set_option maxRecDepth 20000 in
set_option maxHeartbeats 1000000 in
theorem c_receive3 (K : EK) (d : Nat) {i : Nat} (hi : i < 8) (D : DT) {p z : Nat} (hp : p < 8) (hz8 : z ≤ 8) (hf : D (6, i, 0) 1 = nI p) (hz : D (6, i, 0) 2 = nI z) {q : Nat} (ht : (tk (tkc D i i 0) p z).1 = some q) (hk : ¬ D (8, i, q) 3 = (-1)) (hk0 : ¬ D (8, i, q) 3 = 0) : CF K mX2_receive (d + 3) [rR (2, i, 0)] D (some (rI 2)) (chgD (rcv1 D i q (tk (tkc D i i 0) p z).2.1 (tk (tkc D i i 0) p z).2.2) i 2 (D (8, i, q) 2) 1 40) := by
  refine CF.of [some (rR (2, i, 0)), none] (by decide) (leb rfl) rfl ?_
  have hq : q < 8 := (tk_lt (tkc D i i 0) z p hp).2.2 q ht
  refine RD.aload_n (pc := 0) dX2_receive_0 rfl ?_
  refine RD.getR (pc := 1) dX2_receive_1 flX2_47 (ok2 hi) rfl rfl ?_
  refine RD.aload_n (pc := 4) dX2_receive_4 rfl ?_
  refine RD.getR (pc := 5) dX2_receive_5 flX2_34 (ok2 hi) rfl rfl ?_
  refine RD.cV1 (pc := 8) dX2_receive_8 mlX2_104 rfl (ok6 hi) rfl ((c_take K _ hi (ok4 hi (by decide)) D hp hz8 hf hz).to (show _ = some (rR (8, i, q)) by rw [ht]; rfl) rfl) (leb rfl) ?_
  refine RD.astore_n (pc := 11) (ls' := [some (rR (2, i, 0)), some (rR (8, i, q))]) dX2_receive_11 (by decide) rfl ?_
  refine RD.aload_n (pc := 12) dX2_receive_12 rfl ?_
  refine RD.ifnonnull (pc := 13) 18 dX2_receive_13 (by decide) (fun _ _ => ?_) (fun c13 => nomatch c13)
  refine RD.aload_n (pc := 18) dX2_receive_18 rfl ?_
  refine RD.getR (pc := 19) dX2_receive_19 flX2_9 (ok2 hi) rfl rfl ?_
  refine RD.bipush (pc := 22) (v := 120) dX2_receive_22 (by decide) ?_
  refine RD.aload_n (pc := 24) dX2_receive_24 rfl ?_
  refine RD.gI (pc := 25) (v := D (8, i, q) 2) ((congrFun (qst_o (by simp)) _).trans rfl) dX2_receive_25 flX2_108 (ok8 hi hq) rfl rfl ?_
  refine RD.iast (pc := 28) (n := 128) 120 dX2_receive_28 (ok3 hi) rfl rfl (by decide) (by decide) ?_
  refine RD.aload_n (pc := 29) dX2_receive_29 rfl ?_
  refine RD.getR (pc := 30) dX2_receive_30 flX2_9 (ok2 hi) rfl rfl ?_
  refine RD.bipush (pc := 33) (v := 121) dX2_receive_33 (by decide) ?_
  refine RD.aload_n (pc := 35) dX2_receive_35 rfl ?_
  refine RD.gI (pc := 36) (v := D (8, i, q) 1) (up_N (by simp) ((congrFun (qst_o (by simp)) _).trans rfl)) dX2_receive_36 flX2_113 (ok8 hi hq) rfl rfl ?_
  refine RD.iast (pc := 39) (n := 128) 121 dX2_receive_39 (ok3 hi) rfl rfl (by decide) (by decide) ?_
  refine RD.aload_n (pc := 40) dX2_receive_40 rfl ?_
  refine RD.gI (pc := 41) (v := D (8, i, q) 3) (up_N (by simp) (up_N (by simp) ((congrFun (qst_o (by simp)) _).trans rfl))) dX2_receive_41 flX2_116 (ok8 hi hq) rfl rfl ?_
  refine RD.iconst (pc := 44) (v := (-1)) dX2_receive_44 (by decide) ?_
  refine RD.icmp_ne (pc := 45) 50 dX2_receive_45 (by decide) (fun c45 => ?_) (fun c45 => absurd c45 hk)
  refine RD.aload_n (pc := 50) dX2_receive_50 rfl ?_
  refine RD.aload_n (pc := 51) dX2_receive_51 rfl ?_
  refine RD.gI (pc := 52) (v := D (8, i, q) 3) (up_N (by simp) (up_N (by simp) ((congrFun (qst_o (by simp)) _).trans rfl))) dX2_receive_52 flX2_116 (ok8 hi hq) rfl rfl ?_
  refine RD.cV1 (pc := 55) dX2_receive_55 mlX2_93 rfl (ok2 hi) rfl (c_cap1 K _ hi _ hk0) (leb rfl) ?_
  refine RD.aload_n (pc := 58) dX2_receive_58 rfl ?_
  refine RD.gI (pc := 59) (v := D (8, i, q) 2) (up_N (by simp) (up_N (by simp) ((congrFun (qst_o (by simp)) _).trans rfl))) dX2_receive_59 flX2_108 (ok8 hi hq) rfl rfl ?_
  refine RD.iconst (pc := 62) (v := 1) dX2_receive_62 (by decide) ?_
  refine RD.bipush (pc := 63) (v := 40) dX2_receive_63 (by decide) ?_
  refine RD.cV3 (pc := 65) dX2_receive_65 mlX2_119 rfl (ok4 hi (by decide)) rfl (c_change K _ (ok4 hi (by decide)) (up (up (qst D i (tk (tkc D i i 0) p z).2.1 (tk (tkc D i i 0) p z).2.2) (3, i, 0) 120 (D (8, i, q) 2)) (3, i, 0) 121 (D (8, i, q) 1)) (D (8, i, q) 2) 1 40) (leb rfl) ?_
  refine RD.pop (pc := 68) dX2_receive_68 ?_
  refine RD.iconst (pc := 69) (v := 2) dX2_receive_69 (by decide) ?_
  refine RD.ireturn (pc := 70) dX2_receive_70 rfl rfl ?_
  exact ⟨rfl, rfl⟩
