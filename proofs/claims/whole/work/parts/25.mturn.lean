
/-- what is left when those ahead that may not flow are dropped -/
def mrd (s : Nat) : Nat → DT → DT × Nat
  | 0, D => (D, 0)
  | z + 1, D => if subM D (72 + 8 * s) s = true then (D, z + 1) else mrd s z (dropF D s z)
theorem dropF_z {D : DT} {s z : Nat} : dropF D s z (15, 10, 0) s = nI z := by rw [dropF, shF_o (by simp) (by simp) (by simp) (by simp), up_s]
theorem dropF_B {D : DT} {s z : Nat} (hs : s < 8) (hz : z < 8) (hB : ∀ u, u < 35072 → isB (D (15, 6, 0) u)) : ∀ u, u < 35072 → isB (dropF D s z (15, 6, 0) u) := by
  intro u hu
  rw [dropF, shF_6, up_n (by simp)]
  unfold sh1
  split
  · exact hB _ (by omega)
  · exact hB u hu
theorem mrd_inv {s : Nat} (hs : s < 8) : ∀ (z : Nat) (D : DT), z ≤ 8 → D (15, 10, 0) s = nI z → (∀ u, u < 35072 → isB (D (15, 6, 0) u)) → (mrd s z D).1 (15, 10, 0) s = nI (mrd s z D).2 ∧ (mrd s z D).2 ≤ z ∧ (∀ u, u < 35072 → isB ((mrd s z D).1 (15, 6, 0) u))
  | 0, D, _, h, hB => ⟨h, Nat.le_refl 0, hB⟩
  | z + 1, D, hz, h, hB => by
    unfold mrd
    split
    · exact ⟨h, Nat.le_refl _, hB⟩
    · obtain ⟨h1, h2, h3⟩ := mrd_inv hs z (dropF D s z) (by omega) dropF_z (dropF_B hs (by omega) hB)
      exact ⟨h1, by omega, h3⟩

set_option maxRecDepth 20000 in
set_option maxHeartbeats 2000000 in
theorem l_receives (K : EK) (d : Nat) {s : Nat} (hs : s < 8) (Q : Option AV → DT → Prop) : ∀ (z : Nat) (D : DT), z ≤ 8 → D (15, 10, 0) s = nI z → (∀ u, u < 35072 → isB (D (15, 6, 0) u)) → RD K mX6_receives (d + 2) 32 [some (rR (14, 0, 0)), some (rI (nI s)), none, none] [] (mrd s z D).1 Q → RD K mX6_receives (d + 2) 0 [some (rR (14, 0, 0)), some (rI (nI s)), none, none] [] D Q := by
  intro z
  induction z with
  | zero =>
    intro D hz8 hz hB hx
    refine RD.aload_n (pc := 0) dX6_receives_0 rfl ?_
    refine RD.getR (pc := 1) dX6_receives_1 flX6_42 ok14 rfl rfl ?_
    refine RD.iload_n (pc := 4) dX6_receives_4 rfl ?_
    refine RD.iL (pc := 5) (n := 8) s (v := 0) hz dX6_receives_5 (ok15 (by decide)) rfl rfl hs (by decide) ?_
    refine RD.if_le (pc := 6) 32 dX6_receives_6 (by decide) (fun c6 => ?_) (fun c6 => absurd (by decide) c6)
    exact hx
  | succ z ih =>
    intro D hz8 hz hB hx
    refine RD.aload_n (pc := 0) dX6_receives_0 rfl ?_
    refine RD.getR (pc := 1) dX6_receives_1 flX6_42 ok14 rfl rfl ?_
    refine RD.iload_n (pc := 4) dX6_receives_4 rfl ?_
    refine RD.iL (pc := 5) (n := 8) s (v := nI (z + 1)) hz dX6_receives_5 (ok15 (by decide)) rfl rfl hs (by decide) ?_
    refine RD.if_le (pc := 6) 32 dX6_receives_6 (by decide) (fun c6 => absurd c6 (nI_nle (by omega) (by omega))) (fun c6 => ?_)
    refine RD.aload_n (pc := 9) dX6_receives_9 rfl ?_
    refine RD.bipush (pc := 10) (v := 72) dX6_receives_10 (by decide) ?_
    refine RD.bipush (pc := 12) (v := 8) dX6_receives_12 (by decide) ?_
    refine RD.iload_n (pc := 14) dX6_receives_14 rfl ?_
    refine RD.imul (pc := 15) dX6_receives_15 ?_
    refine RD.eqI (pk_mul 8 s) ?_
    refine RD.iadd (pc := 16) dX6_receives_16 ?_
    refine RD.eqI (nI_add 72 (8 * s)) ?_
    refine RD.iload_n (pc := 17) dX6_receives_17 rfl ?_
    refine RD.cV2 (pc := 18) dX6_receives_18 mlX6_79 rfl ok14 rfl (c_isInLabel K _ (l := (72 + (8 * s))) (m := s) (by omega) (by omega) D) (leb rfl) ?_
    refine RD.if_ne (pc := 21) 32 dX6_receives_21 (by decide) (fun c21 => ?_) (fun c21 => ?_)
    · rw [show mrd s (z + 1) D = (D, z + 1) by rw [mrd, bI_1 c21]; rfl] at hx
      exact hx
    · refine RD.aload_n (pc := 24) dX6_receives_24 rfl ?_
      refine RD.iload_n (pc := 25) dX6_receives_25 rfl ?_
      refine RD.cV1v (pc := 26) dX6_receives_26 mlX6_143 rfl ok14 rfl (c_dropFirst K _ hs (show z < 8 by omega) D hz hB) (leb rfl) ?_
      refine RD.goto (pc := 29) 0 dX6_receives_29 (by decide) ?_
      rw [show mrd s (z + 1) D = mrd s z (dropF D s z) by rw [mrd, bI_0 c21]; rfl] at hx
      exact ih (dropF D s z) (by omega) dropF_z (dropF_B hs (by omega) hB) hx

set_option maxRecDepth 20000 in
set_option maxHeartbeats 2000000 in
theorem m_receives0 (K : EK) (d : Nat) {s z : Nat} (hs : s < 8) (D : DT) (hz8 : z ≤ 8) (hz : D (15, 10, 0) s = nI z) (hB : ∀ u, u < 35072 → isB (D (15, 6, 0) u)) (h : (mrd s z D).2 = 0) : CF K mX6_receives (d + 2) [rR (14, 0, 0), rI (nI s)] D (some (rI 0)) ((mrd s z D).1) := by
  refine CF.of [some (rR (14, 0, 0)), some (rI (nI s)), none, none] (by decide) (leb rfl) rfl ?_
  obtain ⟨hi1, hi2, hi3⟩ := mrd_inv hs z D hz8 hz hB
  refine l_receives K d hs _ z D hz8 hz hB ?_
  rw [h] at hi1
  generalize (mrd s z D).1 = E at hi1 ⊢
  refine RD.aload_n (pc := 32) dX6_receives_32 rfl ?_
  refine RD.getR (pc := 33) dX6_receives_33 flX6_42 ok14 rfl rfl ?_
  refine RD.iload_n (pc := 36) dX6_receives_36 rfl ?_
  refine RD.iL (pc := 37) (n := 8) s (v := 0) hi1 dX6_receives_37 (ok15 (by decide)) rfl rfl hs (by decide) ?_
  refine RD.if_ne (pc := 38) 43 dX6_receives_38 (by decide) (fun c38 => absurd rfl c38) (fun c38 => ?_)
  refine RD.iconst (pc := 41) (v := 0) dX6_receives_41 (by decide) ?_
  refine RD.ireturn (pc := 42) dX6_receives_42 rfl rfl ?_
  exact ⟨rfl, rfl⟩


def mtk (E : DT) (s y : Nat) : DT := dropF (up (up E (15, 0, 0) (128 * s + 120) (E (15, 11, 0) (8 * s))) (15, 0, 0) (128 * s + 121) (E (15, 12, 0) (8 * s))) s y

set_option maxRecDepth 20000 in
set_option maxHeartbeats 2000000 in
theorem m_receives1 (K : EK) (d : Nat) {s z : Nat} (hs : s < 8) (D : DT) (hz8 : z ≤ 8) (hz : D (15, 10, 0) s = nI z) (hB : ∀ u, u < 35072 → isB (D (15, 6, 0) u)) {y : Nat} (h : (mrd s z D).2 = y + 1) (hk : (mrd s z D).1 (15, 13, 0) (8 * s) = (-1)) : CF K mX6_receives (d + 2) [rR (14, 0, 0), rI (nI s)] D (some (rI 1)) (mtk (mrd s z D).1 s y) := by
  refine CF.of [some (rR (14, 0, 0)), some (rI (nI s)), none, none] (by decide) (leb rfl) rfl ?_
  obtain ⟨hi1, hi2, hi3⟩ := mrd_inv hs z D hz8 hz hB
  refine l_receives K d hs _ z D hz8 hz hB ?_
  rw [h] at hi1 hi2
  generalize (mrd s z D).1 = E at hi1 hi3 hk ⊢
  refine RD.aload_n (pc := 32) dX6_receives_32 rfl ?_
  refine RD.getR (pc := 33) dX6_receives_33 flX6_42 ok14 rfl rfl ?_
  refine RD.iload_n (pc := 36) dX6_receives_36 rfl ?_
  refine RD.iL (pc := 37) (n := 8) s (v := nI (y + 1)) hi1 dX6_receives_37 (ok15 (by decide)) rfl rfl hs (by decide) ?_
  refine RD.if_ne (pc := 38) 43 dX6_receives_38 (by decide) (fun c38 => ?_) (fun c38 => absurd c38 (nI_ne0 (by omega) (by omega)))
  refine RD.aload_n (pc := 43) dX6_receives_43 rfl ?_
  refine RD.getR (pc := 44) dX6_receives_44 flX6_45 ok14 rfl rfl ?_
  refine RD.bipush (pc := 47) (v := 8) dX6_receives_47 (by decide) ?_
  refine RD.iload_n (pc := 49) dX6_receives_49 rfl ?_
  refine RD.imul (pc := 50) dX6_receives_50 ?_
  refine RD.eqI (pk_mul 8 s) ?_
  refine RD.iL (pc := 51) (n := 64) (8 * s) (v := E (15, 11, 0) (8 * s)) rfl dX6_receives_51 (ok15 (by decide)) rfl rfl (by omega) (by decide) ?_
  refine RD.istore_n (pc := 52) (ls' := [some (rR (14, 0, 0)), some (rI (nI s)), some (rI (E (15, 11, 0) (8 * s))), none]) dX6_receives_52 (by decide) rfl ?_
  refine RD.aload_n (pc := 53) dX6_receives_53 rfl ?_
  refine RD.getR (pc := 54) dX6_receives_54 flX6_51 ok14 rfl rfl ?_
  refine RD.bipush (pc := 57) (v := 8) dX6_receives_57 (by decide) ?_
  refine RD.iload_n (pc := 59) dX6_receives_59 rfl ?_
  refine RD.imul (pc := 60) dX6_receives_60 ?_
  refine RD.eqI (pk_mul 8 s) ?_
  refine RD.iL (pc := 61) (n := 64) (8 * s) (v := E (15, 13, 0) (8 * s)) rfl dX6_receives_61 (ok15 (by decide)) rfl rfl (by omega) (by decide) ?_
  refine RD.istore_n (pc := 62) (ls' := [some (rR (14, 0, 0)), some (rI (nI s)), some (rI (E (15, 11, 0) (8 * s))), some (rI (E (15, 13, 0) (8 * s)))]) dX6_receives_62 (by decide) rfl ?_
  refine RD.aload_n (pc := 63) dX6_receives_63 rfl ?_
  refine RD.getR (pc := 64) dX6_receives_64 flX6_9 ok14 rfl rfl ?_
  refine RD.sipush (pc := 67) (v := 128) dX6_receives_67 (by decide) ?_
  refine RD.iload_n (pc := 70) dX6_receives_70 rfl ?_
  refine RD.imul (pc := 71) dX6_receives_71 ?_
  refine RD.eqI (pk_mul 128 s) ?_
  refine RD.bipush (pc := 72) (v := 120) dX6_receives_72 (by decide) ?_
  refine RD.iadd (pc := 74) dX6_receives_74 ?_
  refine RD.eqI (nI_add (128 * s) 120) ?_
  refine RD.iload_n (pc := 75) dX6_receives_75 rfl ?_
  refine RD.iast (pc := 76) (n := 1024) ((128 * s) + 120) dX6_receives_76 (ok15 (by decide)) rfl rfl (by omega) (by decide) ?_
  refine RD.aload_n (pc := 77) dX6_receives_77 rfl ?_
  refine RD.getR (pc := 78) dX6_receives_78 flX6_9 ok14 rfl rfl ?_
  refine RD.sipush (pc := 81) (v := 128) dX6_receives_81 (by decide) ?_
  refine RD.iload_n (pc := 84) dX6_receives_84 rfl ?_
  refine RD.imul (pc := 85) dX6_receives_85 ?_
  refine RD.eqI (pk_mul 128 s) ?_
  refine RD.bipush (pc := 86) (v := 121) dX6_receives_86 (by decide) ?_
  refine RD.iadd (pc := 88) dX6_receives_88 ?_
  refine RD.eqI (nI_add (128 * s) 121) ?_
  refine RD.aload_n (pc := 89) dX6_receives_89 rfl ?_
  refine RD.getR (pc := 90) dX6_receives_90 flX6_48 ok14 rfl rfl ?_
  refine RD.bipush (pc := 93) (v := 8) dX6_receives_93 (by decide) ?_
  refine RD.iload_n (pc := 95) dX6_receives_95 rfl ?_
  refine RD.imul (pc := 96) dX6_receives_96 ?_
  refine RD.eqI (pk_mul 8 s) ?_
  refine RD.iL (pc := 97) (n := 64) (8 * s) (v := E (15, 12, 0) (8 * s)) (up_N (by simp) rfl) dX6_receives_97 (ok15 (by decide)) rfl rfl (by omega) (by decide) ?_
  refine RD.iast (pc := 98) (n := 1024) ((128 * s) + 121) dX6_receives_98 (ok15 (by decide)) rfl rfl (by omega) (by decide) ?_
  refine RD.aload_n (pc := 99) dX6_receives_99 rfl ?_
  refine RD.iload_n (pc := 100) dX6_receives_100 rfl ?_
  refine RD.cV1v (pc := 101) dX6_receives_101 mlX6_143 rfl ok14 rfl (c_dropFirst K _ hs (show y < 8 by omega) (up (up E (15, 0, 0) (128 * s + 120) (E (15, 11, 0) (8 * s))) (15, 0, 0) (128 * s + 121) (E (15, 12, 0) (8 * s))) (by rw [up_n (by simp), up_n (by simp)]; exact hi1) (fun u hu => by rw [up_n (by simp), up_n (by simp)]; exact hi3 u hu)) (leb rfl) ?_
  refine RD.iload_n (pc := 104) dX6_receives_104 rfl ?_
  refine RD.if_ge (pc := 105) 110 dX6_receives_105 (by decide) (fun c105 => absurd c105 (by rw [hk]; decide)) (fun c105 => ?_)
  refine RD.iconst (pc := 108) (v := 1) dX6_receives_108 (by decide) ?_
  refine RD.ireturn (pc := 109) dX6_receives_109 rfl rfl ?_
  exact ⟨rfl, rfl⟩

set_option maxRecDepth 20000 in
set_option maxHeartbeats 2000000 in
theorem m_receives2 (K : EK) (d : Nat) {s z : Nat} (hs : s < 8) (D : DT) (hz8 : z ≤ 8) (hz : D (15, 10, 0) s = nI z) (hB : ∀ u, u < 35072 → isB (D (15, 6, 0) u)) {y q v : Nat} (h : (mrd s z D).2 = y + 1) (hq : q < 2) (hv8 : v < 256) (hk : (mrd s z D).1 (15, 13, 0) (8 * s) = nI q) (hv : (mrd s z D).1 (15, 11, 0) (8 * s) = nI v) (hc : cnF (mtk (mrd s z D).1 s y) (8 * q + s) < 40) : CF K mX6_receives (d + 2) [rR (14, 0, 0), rI (nI s)] D (some (rI 2)) (up (mtk (mrd s z D).1 s y) (15, 7, 0) (256 * (8 * q + s) + v) 1) := by
  refine CF.of [some (rR (14, 0, 0)), some (rI (nI s)), none, none] (by decide) (leb rfl) rfl ?_
  obtain ⟨hi1, hi2, hi3⟩ := mrd_inv hs z D hz8 hz hB
  refine l_receives K d hs _ z D hz8 hz hB ?_
  rw [h] at hi1 hi2
  generalize (mrd s z D).1 = E at hi1 hi3 hk hv hc ⊢
  refine RD.aload_n (pc := 32) dX6_receives_32 rfl ?_
  refine RD.getR (pc := 33) dX6_receives_33 flX6_42 ok14 rfl rfl ?_
  refine RD.iload_n (pc := 36) dX6_receives_36 rfl ?_
  refine RD.iL (pc := 37) (n := 8) s (v := nI (y + 1)) hi1 dX6_receives_37 (ok15 (by decide)) rfl rfl hs (by decide) ?_
  refine RD.if_ne (pc := 38) 43 dX6_receives_38 (by decide) (fun c38 => ?_) (fun c38 => absurd c38 (nI_ne0 (by omega) (by omega)))
  refine RD.aload_n (pc := 43) dX6_receives_43 rfl ?_
  refine RD.getR (pc := 44) dX6_receives_44 flX6_45 ok14 rfl rfl ?_
  refine RD.bipush (pc := 47) (v := 8) dX6_receives_47 (by decide) ?_
  refine RD.iload_n (pc := 49) dX6_receives_49 rfl ?_
  refine RD.imul (pc := 50) dX6_receives_50 ?_
  refine RD.eqI (pk_mul 8 s) ?_
  refine RD.iL (pc := 51) (n := 64) (8 * s) (v := nI v) hv dX6_receives_51 (ok15 (by decide)) rfl rfl (by omega) (by decide) ?_
  refine RD.istore_n (pc := 52) (ls' := [some (rR (14, 0, 0)), some (rI (nI s)), some (rI (nI v)), none]) dX6_receives_52 (by decide) rfl ?_
  refine RD.aload_n (pc := 53) dX6_receives_53 rfl ?_
  refine RD.getR (pc := 54) dX6_receives_54 flX6_51 ok14 rfl rfl ?_
  refine RD.bipush (pc := 57) (v := 8) dX6_receives_57 (by decide) ?_
  refine RD.iload_n (pc := 59) dX6_receives_59 rfl ?_
  refine RD.imul (pc := 60) dX6_receives_60 ?_
  refine RD.eqI (pk_mul 8 s) ?_
  refine RD.iL (pc := 61) (n := 64) (8 * s) (v := nI q) hk dX6_receives_61 (ok15 (by decide)) rfl rfl (by omega) (by decide) ?_
  refine RD.istore_n (pc := 62) (ls' := [some (rR (14, 0, 0)), some (rI (nI s)), some (rI (nI v)), some (rI (nI q))]) dX6_receives_62 (by decide) rfl ?_
  refine RD.aload_n (pc := 63) dX6_receives_63 rfl ?_
  refine RD.getR (pc := 64) dX6_receives_64 flX6_9 ok14 rfl rfl ?_
  refine RD.sipush (pc := 67) (v := 128) dX6_receives_67 (by decide) ?_
  refine RD.iload_n (pc := 70) dX6_receives_70 rfl ?_
  refine RD.imul (pc := 71) dX6_receives_71 ?_
  refine RD.eqI (pk_mul 128 s) ?_
  refine RD.bipush (pc := 72) (v := 120) dX6_receives_72 (by decide) ?_
  refine RD.iadd (pc := 74) dX6_receives_74 ?_
  refine RD.eqI (nI_add (128 * s) 120) ?_
  refine RD.iload_n (pc := 75) dX6_receives_75 rfl ?_
  refine RD.iast (pc := 76) (n := 1024) ((128 * s) + 120) dX6_receives_76 (ok15 (by decide)) rfl rfl (by omega) (by decide) ?_
  refine RD.aload_n (pc := 77) dX6_receives_77 rfl ?_
  refine RD.getR (pc := 78) dX6_receives_78 flX6_9 ok14 rfl rfl ?_
  refine RD.sipush (pc := 81) (v := 128) dX6_receives_81 (by decide) ?_
  refine RD.iload_n (pc := 84) dX6_receives_84 rfl ?_
  refine RD.imul (pc := 85) dX6_receives_85 ?_
  refine RD.eqI (pk_mul 128 s) ?_
  refine RD.bipush (pc := 86) (v := 121) dX6_receives_86 (by decide) ?_
  refine RD.iadd (pc := 88) dX6_receives_88 ?_
  refine RD.eqI (nI_add (128 * s) 121) ?_
  refine RD.aload_n (pc := 89) dX6_receives_89 rfl ?_
  refine RD.getR (pc := 90) dX6_receives_90 flX6_48 ok14 rfl rfl ?_
  refine RD.bipush (pc := 93) (v := 8) dX6_receives_93 (by decide) ?_
  refine RD.iload_n (pc := 95) dX6_receives_95 rfl ?_
  refine RD.imul (pc := 96) dX6_receives_96 ?_
  refine RD.eqI (pk_mul 8 s) ?_
  refine RD.iL (pc := 97) (n := 64) (8 * s) (v := E (15, 12, 0) (8 * s)) (up_N (by simp) rfl) dX6_receives_97 (ok15 (by decide)) rfl rfl (by omega) (by decide) ?_
  refine RD.iast (pc := 98) (n := 1024) ((128 * s) + 121) dX6_receives_98 (ok15 (by decide)) rfl rfl (by omega) (by decide) ?_
  refine RD.aload_n (pc := 99) dX6_receives_99 rfl ?_
  refine RD.iload_n (pc := 100) dX6_receives_100 rfl ?_
  refine RD.cV1v (pc := 101) dX6_receives_101 mlX6_143 rfl ok14 rfl (by rw [← hv]; exact c_dropFirst K _ hs (show y < 8 by omega) (up (up E (15, 0, 0) (128 * s + 120) (E (15, 11, 0) (8 * s))) (15, 0, 0) (128 * s + 121) (E (15, 12, 0) (8 * s))) (by rw [up_n (by simp), up_n (by simp)]; exact hi1) (fun u hu => by rw [up_n (by simp), up_n (by simp)]; exact hi3 u hu)) (leb rfl) ?_
  refine RD.iload_n (pc := 104) dX6_receives_104 rfl ?_
  refine RD.if_ge (pc := 105) 110 dX6_receives_105 (by decide) (fun c105 => ?_) (fun c105 => absurd (nI_pos' (by omega)) c105)
  refine RD.aload_n (pc := 110) dX6_receives_110 rfl ?_
  refine RD.iload_n (pc := 111) dX6_receives_111 rfl ?_
  refine RD.iload_n (pc := 112) dX6_receives_112 rfl ?_
  refine RD.cV2 (pc := 113) dX6_receives_113 mlX6_139 rfl ok14 rfl (c_capab K _ (s := s) (q := q) (by omega) (by omega) (mtk E s y)) (leb rfl) ?_
  refine RD.bipush (pc := 116) (v := 40) dX6_receives_116 (by decide) ?_
  refine RD.icmp_ge (pc := 118) 134 dX6_receives_118 (by decide) (fun c118 => absurd c118 (nI_ge (b := 40) hc (by decide))) (fun c118 => ?_)
  refine RD.aload_n (pc := 121) dX6_receives_121 rfl ?_
  refine RD.getR (pc := 122) dX6_receives_122 flX6_33 ok14 rfl rfl ?_
  refine RD.aload_n (pc := 125) dX6_receives_125 rfl ?_
  refine RD.iload_n (pc := 126) dX6_receives_126 rfl ?_
  refine RD.iload_n (pc := 127) dX6_receives_127 rfl ?_
  refine RD.iload_n (pc := 128) dX6_receives_128 rfl ?_
  refine RD.cV3 (pc := 129) dX6_receives_129 mlX6_67 rfl ok14 rfl (c_at K _ (mtk E s y) s q v) (leb rfl) ?_
  refine RD.iconst (pc := 132) (v := 1) dX6_receives_132 (by decide) ?_
  refine RD.zast (pc := 133) (n := 4096) (256 * (8 * q + s) + v) dX6_receives_133 (ok15 (by decide)) rfl rfl (by omega) (by decide) rfl ?_
  refine RD.iconst (pc := 134) (v := 2) dX6_receives_134 (by decide) ?_
  refine RD.ireturn (pc := 135) dX6_receives_135 rfl rfl ?_
  exact ⟨rfl, rfl⟩

set_option maxRecDepth 20000 in
set_option maxHeartbeats 2000000 in
theorem m_receives3 (K : EK) (d : Nat) {s z : Nat} (hs : s < 8) (D : DT) (hz8 : z ≤ 8) (hz : D (15, 10, 0) s = nI z) (hB : ∀ u, u < 35072 → isB (D (15, 6, 0) u)) {y q v : Nat} (h : (mrd s z D).2 = y + 1) (hq : q < 2) (hv8 : v < 256) (hk : (mrd s z D).1 (15, 13, 0) (8 * s) = nI q) (hv : (mrd s z D).1 (15, 11, 0) (8 * s) = nI v) (hc : 40 ≤ cnF (mtk (mrd s z D).1 s y) (8 * q + s)) : CF K mX6_receives (d + 2) [rR (14, 0, 0), rI (nI s)] D (some (rI 2)) (mtk (mrd s z D).1 s y) := by
  refine CF.of [some (rR (14, 0, 0)), some (rI (nI s)), none, none] (by decide) (leb rfl) rfl ?_
  obtain ⟨hi1, hi2, hi3⟩ := mrd_inv hs z D hz8 hz hB
  refine l_receives K d hs _ z D hz8 hz hB ?_
  rw [h] at hi1 hi2
  generalize (mrd s z D).1 = E at hi1 hi3 hk hv hc ⊢
  refine RD.aload_n (pc := 32) dX6_receives_32 rfl ?_
  refine RD.getR (pc := 33) dX6_receives_33 flX6_42 ok14 rfl rfl ?_
  refine RD.iload_n (pc := 36) dX6_receives_36 rfl ?_
  refine RD.iL (pc := 37) (n := 8) s (v := nI (y + 1)) hi1 dX6_receives_37 (ok15 (by decide)) rfl rfl hs (by decide) ?_
  refine RD.if_ne (pc := 38) 43 dX6_receives_38 (by decide) (fun c38 => ?_) (fun c38 => absurd c38 (nI_ne0 (by omega) (by omega)))
  refine RD.aload_n (pc := 43) dX6_receives_43 rfl ?_
  refine RD.getR (pc := 44) dX6_receives_44 flX6_45 ok14 rfl rfl ?_
  refine RD.bipush (pc := 47) (v := 8) dX6_receives_47 (by decide) ?_
  refine RD.iload_n (pc := 49) dX6_receives_49 rfl ?_
  refine RD.imul (pc := 50) dX6_receives_50 ?_
  refine RD.eqI (pk_mul 8 s) ?_
  refine RD.iL (pc := 51) (n := 64) (8 * s) (v := nI v) hv dX6_receives_51 (ok15 (by decide)) rfl rfl (by omega) (by decide) ?_
  refine RD.istore_n (pc := 52) (ls' := [some (rR (14, 0, 0)), some (rI (nI s)), some (rI (nI v)), none]) dX6_receives_52 (by decide) rfl ?_
  refine RD.aload_n (pc := 53) dX6_receives_53 rfl ?_
  refine RD.getR (pc := 54) dX6_receives_54 flX6_51 ok14 rfl rfl ?_
  refine RD.bipush (pc := 57) (v := 8) dX6_receives_57 (by decide) ?_
  refine RD.iload_n (pc := 59) dX6_receives_59 rfl ?_
  refine RD.imul (pc := 60) dX6_receives_60 ?_
  refine RD.eqI (pk_mul 8 s) ?_
  refine RD.iL (pc := 61) (n := 64) (8 * s) (v := nI q) hk dX6_receives_61 (ok15 (by decide)) rfl rfl (by omega) (by decide) ?_
  refine RD.istore_n (pc := 62) (ls' := [some (rR (14, 0, 0)), some (rI (nI s)), some (rI (nI v)), some (rI (nI q))]) dX6_receives_62 (by decide) rfl ?_
  refine RD.aload_n (pc := 63) dX6_receives_63 rfl ?_
  refine RD.getR (pc := 64) dX6_receives_64 flX6_9 ok14 rfl rfl ?_
  refine RD.sipush (pc := 67) (v := 128) dX6_receives_67 (by decide) ?_
  refine RD.iload_n (pc := 70) dX6_receives_70 rfl ?_
  refine RD.imul (pc := 71) dX6_receives_71 ?_
  refine RD.eqI (pk_mul 128 s) ?_
  refine RD.bipush (pc := 72) (v := 120) dX6_receives_72 (by decide) ?_
  refine RD.iadd (pc := 74) dX6_receives_74 ?_
  refine RD.eqI (nI_add (128 * s) 120) ?_
  refine RD.iload_n (pc := 75) dX6_receives_75 rfl ?_
  refine RD.iast (pc := 76) (n := 1024) ((128 * s) + 120) dX6_receives_76 (ok15 (by decide)) rfl rfl (by omega) (by decide) ?_
  refine RD.aload_n (pc := 77) dX6_receives_77 rfl ?_
  refine RD.getR (pc := 78) dX6_receives_78 flX6_9 ok14 rfl rfl ?_
  refine RD.sipush (pc := 81) (v := 128) dX6_receives_81 (by decide) ?_
  refine RD.iload_n (pc := 84) dX6_receives_84 rfl ?_
  refine RD.imul (pc := 85) dX6_receives_85 ?_
  refine RD.eqI (pk_mul 128 s) ?_
  refine RD.bipush (pc := 86) (v := 121) dX6_receives_86 (by decide) ?_
  refine RD.iadd (pc := 88) dX6_receives_88 ?_
  refine RD.eqI (nI_add (128 * s) 121) ?_
  refine RD.aload_n (pc := 89) dX6_receives_89 rfl ?_
  refine RD.getR (pc := 90) dX6_receives_90 flX6_48 ok14 rfl rfl ?_
  refine RD.bipush (pc := 93) (v := 8) dX6_receives_93 (by decide) ?_
  refine RD.iload_n (pc := 95) dX6_receives_95 rfl ?_
  refine RD.imul (pc := 96) dX6_receives_96 ?_
  refine RD.eqI (pk_mul 8 s) ?_
  refine RD.iL (pc := 97) (n := 64) (8 * s) (v := E (15, 12, 0) (8 * s)) (up_N (by simp) rfl) dX6_receives_97 (ok15 (by decide)) rfl rfl (by omega) (by decide) ?_
  refine RD.iast (pc := 98) (n := 1024) ((128 * s) + 121) dX6_receives_98 (ok15 (by decide)) rfl rfl (by omega) (by decide) ?_
  refine RD.aload_n (pc := 99) dX6_receives_99 rfl ?_
  refine RD.iload_n (pc := 100) dX6_receives_100 rfl ?_
  refine RD.cV1v (pc := 101) dX6_receives_101 mlX6_143 rfl ok14 rfl (by rw [← hv]; exact c_dropFirst K _ hs (show y < 8 by omega) (up (up E (15, 0, 0) (128 * s + 120) (E (15, 11, 0) (8 * s))) (15, 0, 0) (128 * s + 121) (E (15, 12, 0) (8 * s))) (by rw [up_n (by simp), up_n (by simp)]; exact hi1) (fun u hu => by rw [up_n (by simp), up_n (by simp)]; exact hi3 u hu)) (leb rfl) ?_
  refine RD.iload_n (pc := 104) dX6_receives_104 rfl ?_
  refine RD.if_ge (pc := 105) 110 dX6_receives_105 (by decide) (fun c105 => ?_) (fun c105 => absurd (nI_pos' (by omega)) c105)
  refine RD.aload_n (pc := 110) dX6_receives_110 rfl ?_
  refine RD.iload_n (pc := 111) dX6_receives_111 rfl ?_
  refine RD.iload_n (pc := 112) dX6_receives_112 rfl ?_
  refine RD.cV2 (pc := 113) dX6_receives_113 mlX6_139 rfl ok14 rfl (c_capab K _ (s := s) (q := q) (by omega) (by omega) (mtk E s y)) (leb rfl) ?_
  refine RD.bipush (pc := 116) (v := 40) dX6_receives_116 (by decide) ?_
  refine RD.icmp_ge (pc := 118) 134 dX6_receives_118 (by decide) (fun c118 => ?_) (fun c118 => absurd (nI_le (a := 40) hc (Nat.lt_of_le_of_lt (cnF_lt _ _) (by decide))) c118)
  refine RD.iconst (pc := 134) (v := 2) dX6_receives_134 (by decide) ?_
  refine RD.ireturn (pc := 135) dX6_receives_135 rfl rfl ?_
  exact ⟨rfl, rfl⟩


def mmcp (D : DT) (t s e n : Nat) : DT := fun a => if a = (15, 0, 0) then (fun k => if 128 * t ≤ k ∧ k < 128 * t + n then D (15, 0, 0) (128 * s + e + (k - 128 * t)) else D (15, 0, 0) k) else D a
theorem mmcp_0 (D : DT) (t s e : Nat) : mmcp D t s e 0 = D := by
  funext a
  by_cases h : a = (15, 0, 0)
  · subst h
    funext k
    have : ¬ (128 * t ≤ k ∧ k < 128 * t + 0) := by omega
    simp only [mmcp, if_true, this, if_false]
  · simp [mmcp, h]
theorem mmcp_o {D : DT} {t s e n : Nat} {a : AD} (h : a ≠ (15, 0, 0)) : mmcp D t s e n a = D a := by rw [mmcp, if_neg h]
theorem mmcp_r {D : DT} {t s e n k : Nat} (h : s ≠ t) (hk : e + k < 128) (hn : n ≤ 128) : mmcp D t s e n (15, 0, 0) (128 * s + e + k) = D (15, 0, 0) (128 * s + e + k) := by
  have : ¬ (128 * t ≤ 128 * s + e + k ∧ 128 * s + e + k < 128 * t + n) := by omega
  simp only [mmcp, if_true, this, if_false]
theorem mmcp_s {D : DT} {t s e n : Nat} : up (mmcp D t s e n) (15, 0, 0) (128 * t + n) (D (15, 0, 0) (128 * s + e + n)) = mmcp D t s e (n + 1) := by
  funext a k
  rw [up_at]
  by_cases h : a = (15, 0, 0)
  · subst h
    by_cases h2 : k = 128 * t + n
    · subst h2
      have h3 : 128 * t ≤ 128 * t + n ∧ 128 * t + n < 128 * t + (n + 1) := by omega
      have h4 : 128 * t + n - 128 * t = n := by omega
      simp only [mmcp, if_true, h3, h4, and_self]
    · by_cases h3 : 128 * t ≤ k ∧ k < 128 * t + n
      · have h4 : 128 * t ≤ k ∧ k < 128 * t + (n + 1) := by omega
        simp only [mmcp, if_true, h2, and_false, if_false, h3, h4, and_self]
      · have h4 : ¬ (128 * t ≤ k ∧ k < 128 * t + (n + 1)) := by omega
        simp only [mmcp, if_true, h2, and_false, if_false, h3, h4]
  · simp [mmcp, h]
def mspF (D : DT) (s t e w : Nat) : DT := lcp (up (mmcp D t s e w) (15, 3, 0) t 1) s t 256
def mspOK (D : DT) (s : Nat) (a b n : Int32) : Prop := ∃ t w e, 1 ≤ t ∧ t < 8 ∧ (t - 1) / 2 = s ∧ a = nI t ∧ n = nI w ∧ 1 ≤ w ∧ w ≤ 128 ∧ b = nI e ∧ e + w ≤ 128 ∧ D (15, 3, 0) t = 0 ∧ subM D t s = true
theorem inB_t {x : Int32} {lo hi : Nat} (hh : hi < 2 ^ 31) (hl : lo < 2 ^ 31) (h : inB x (nI lo) (nI hi) = true) : ∃ n, lo ≤ n ∧ n ≤ hi ∧ x = nI n := by
  simp [inB] at h
  obtain ⟨n, hn, rfl⟩ := nI_of (x := x) (fun h2 => absurd (Int32.lt_of_le_of_lt h.1 h2) (nI_pos hl))
  exact ⟨n, (nI_leI hl hn).mp h.1, (nI_leI hn hh).mp h.2, rfl⟩
theorem inB_nI {lo n hi : Nat} (h1 : lo ≤ n) (h2 : n ≤ hi) (hh : hi < 2 ^ 31) : inB (nI n) (nI lo) (nI hi) = true := by
  simp [inB, nI_le h1 (Nat.lt_of_le_of_lt h2 hh), nI_le h2 hh]

set_option maxRecDepth 20000 in
set_option maxHeartbeats 2000000 in
theorem l_spawns (K : EK) (d : Nat) {s t w e : Nat} (hs : s < 8) (ht : t < 8) (hst : s ≠ t) (hw : w ≤ 128) (hew : e + w ≤ 128) (D : DT) (hB : ∀ u, u < 35072 → isB (D (15, 6, 0) u)) : ∀ n k, k ≤ w → w + 1 ≤ k + n → RD K mX6_spawns (d + 1) 80 [some (rR (14, 0, 0)), some (rI (nI s)), some (rI (nI t)), some (rI (nI e)), some (rI (nI w)), some (rI 1), some (rI (nI k))] [] (mmcp D t s e k) (fun r0 D0 => r0 = some (rI 1) ∧ D0 = mspF D s t e w) := by
  intro n
  induction n with
  | zero => intro k h1 h2; omega
  | succ n ih =>
    intro k hkw hn
    refine RD.iload (pc := 80) dX6_spawns_80 rfl ?_
    refine RD.iload (pc := 82) dX6_spawns_82 rfl ?_
    refine RD.icmp_ge (pc := 84) 121 dX6_spawns_84 (by decide) (fun c84 => ?_) (fun c84 => ?_)
    · have hkw8 : k = w := by
        have := (nI_leI (a := w) (b := k) (by omega) (by omega)).mp c84
        omega
      subst hkw8
      refine RD.aload_n (pc := 121) dX6_spawns_121 rfl ?_
      refine RD.getR (pc := 122) dX6_spawns_122 flX6_19 ok14 rfl rfl ?_
      refine RD.iload_n (pc := 125) dX6_spawns_125 rfl ?_
      refine RD.iconst (pc := 126) (v := 1) dX6_spawns_126 (by decide) ?_
      refine RD.iast (pc := 127) (n := 8) t dX6_spawns_127 (ok15 (by decide)) rfl rfl ht (by decide) ?_
      refine RD.aload_n (pc := 128) dX6_spawns_128 rfl ?_
      refine RD.iload_n (pc := 129) dX6_spawns_129 rfl ?_
      refine RD.iload_n (pc := 130) dX6_spawns_130 rfl ?_
      refine RD.cV2v (pc := 131) dX6_spawns_131 mlX6_71 rfl ok14 rfl (c_copyLabel K _ (l := s) (m := t) (by omega) (by omega) hst (up (mmcp D t s e k) (15, 3, 0) t 1) (fun u hu => by rw [up_n (by simp), mmcp_o (by simp)]; exact hB _ (by omega))) (leb rfl) ?_
      refine RD.iconst (pc := 134) (v := 1) dX6_spawns_134 (by decide) ?_
      refine RD.ireturn (pc := 135) dX6_spawns_135 rfl rfl ?_
      exact ⟨rfl, rfl⟩
    · have hkw8 : k < w := Nat.lt_of_not_le (fun h => c84 (nI_le h (by omega)))
      refine RD.aload_n (pc := 87) dX6_spawns_87 rfl ?_
      refine RD.getR (pc := 88) dX6_spawns_88 flX6_9 ok14 rfl rfl ?_
      refine RD.sipush (pc := 91) (v := 128) dX6_spawns_91 (by decide) ?_
      refine RD.iload_n (pc := 94) dX6_spawns_94 rfl ?_
      refine RD.imul (pc := 95) dX6_spawns_95 ?_
      refine RD.eqI (pk_mul 128 t) ?_
      refine RD.iload (pc := 96) dX6_spawns_96 rfl ?_
      refine RD.iadd (pc := 98) dX6_spawns_98 ?_
      refine RD.eqI (nI_add (128 * t) k) ?_
      refine RD.aload_n (pc := 99) dX6_spawns_99 rfl ?_
      refine RD.getR (pc := 100) dX6_spawns_100 flX6_9 ok14 rfl rfl ?_
      refine RD.sipush (pc := 103) (v := 128) dX6_spawns_103 (by decide) ?_
      refine RD.iload_n (pc := 106) dX6_spawns_106 rfl ?_
      refine RD.imul (pc := 107) dX6_spawns_107 ?_
      refine RD.eqI (pk_mul 128 s) ?_
      refine RD.iload_n (pc := 108) dX6_spawns_108 rfl ?_
      refine RD.iadd (pc := 109) dX6_spawns_109 ?_
      refine RD.eqI (nI_add (128 * s) e) ?_
      refine RD.iload (pc := 110) dX6_spawns_110 rfl ?_
      refine RD.iadd (pc := 112) dX6_spawns_112 ?_
      refine RD.eqI (nI_add ((128 * s) + e) k) ?_
      refine RD.iL (pc := 113) (n := 1024) (((128 * s) + e) + k) (v := D (15, 0, 0) (128 * s + e + k)) (mmcp_r hst (by omega) (by omega)) dX6_spawns_113 (ok15 (by decide)) rfl rfl (by omega) (by decide) ?_
      refine RD.iast (pc := 114) (n := 1024) ((128 * t) + k) dX6_spawns_114 (ok15 (by decide)) rfl rfl (by omega) (by decide) ?_
      refine RD.iinc (pc := 115) (ls' := [some (rR (14, 0, 0)), some (rI (nI s)), some (rI (nI t)), some (rI (nI e)), some (rI (nI w)), some (rI 1), some (rI (nI (k + 1)))]) dX6_spawns_115 rfl (nI_1 k) (by decide) rfl ?_
      refine RD.goto (pc := 118) 80 dX6_spawns_118 (by decide) ?_
      rw [mmcp_s]
      exact ih (k + 1) (by omega) (by omega)

set_option maxRecDepth 20000 in
set_option maxHeartbeats 1000000 in
theorem m_spawns1 (K : EK) (d : Nat) {s t w e : Nat} (hs : s < 8) (ht : t < 8) (hst : s ≠ t) (hw : w ≤ 128) (hew : e + w ≤ 128) (D : DT) (hB : ∀ u, u < 35072 → isB (D (15, 6, 0) u)) (h1t : 1 ≤ t) (hpar : (t - 1) / 2 = s) (h1w : 1 ≤ w) (h0 : D (15, 3, 0) t = 0) (hsub : subM D t s = true) : CF K mX6_spawns (d + 1) [rR (14, 0, 0), rI (nI s), rI (nI t), rI (nI e), rI (nI w)] D (some (rI 1)) (mspF D s t e w) := by
  refine CF.of [some (rR (14, 0, 0)), some (rI (nI s)), some (rI (nI t)), some (rI (nI e)), some (rI (nI w)), none, none] (by decide) (leb rfl) rfl ?_
  refine RD.iload_n (pc := 0) dX6_spawns_0 rfl ?_
  refine RD.iconst (pc := 1) (v := 1) dX6_spawns_1 (by decide) ?_
  refine RD.bipush (pc := 2) (v := 7) dX6_spawns_2 (by decide) ?_
  refine RD.cS3 (pc := 4) dX6_spawns_4 mlX6_63 (c_mIsInG K _ D (nI t) 1 7) (leb rfl) ?_
  refine RD.if_eq (pc := 7) 41 dX6_spawns_7 (by decide) (fun c7 => absurd c7 (by rw [show inB (nI t) 1 7 = true from inB_nI (lo := 1) (hi := 7) h1t (by omega) (by decide)]; decide)) (fun c7 => ?_)
  refine RD.iload_n (pc := 10) dX6_spawns_10 rfl ?_
  refine RD.iconst (pc := 11) (v := 1) dX6_spawns_11 (by decide) ?_
  refine RD.isub (pc := 12) dX6_spawns_12 ?_
  refine RD.iconst (pc := 13) (v := 2) dX6_spawns_13 (by decide) ?_
  refine RD.idiv (pc := 14) dX6_spawns_14 (by decide) ?_
  refine RD.iload_n (pc := 15) dX6_spawns_15 rfl ?_
  refine RD.icmp_ne (pc := 16) 41 dX6_spawns_16 (by decide) (fun c16 => absurd (by rw [half h1t ht, hpar]) c16) (fun c16 => ?_)
  refine RD.aload_n (pc := 19) dX6_spawns_19 rfl ?_
  refine RD.getR (pc := 20) dX6_spawns_20 flX6_19 ok14 rfl rfl ?_
  refine RD.iload_n (pc := 23) dX6_spawns_23 rfl ?_
  refine RD.iL (pc := 24) (n := 8) t (v := D (15, 3, 0) t) rfl dX6_spawns_24 (ok15 (by decide)) rfl rfl ht (by decide) ?_
  refine RD.if_ne (pc := 25) 41 dX6_spawns_25 (by decide) (fun c25 => absurd h0 c25) (fun c25 => ?_)
  refine RD.aload_n (pc := 28) dX6_spawns_28 rfl ?_
  refine RD.iload_n (pc := 29) dX6_spawns_29 rfl ?_
  refine RD.iload_n (pc := 30) dX6_spawns_30 rfl ?_
  refine RD.cV2 (pc := 31) dX6_spawns_31 mlX6_79 rfl ok14 rfl (c_isInLabel K _ (l := t) (m := s) (by omega) (by omega) D) (leb rfl) ?_
  refine RD.if_eq (pc := 34) 41 dX6_spawns_34 (by decide) (fun c34 => absurd c34 (by rw [hsub]; decide)) (fun c34 => ?_)
  refine RD.iconst (pc := 37) (v := 1) dX6_spawns_37 (by decide) ?_
  refine RD.goto (pc := 38) 42 dX6_spawns_38 (by decide) ?_
  refine RD.istore (pc := 42) (ls' := [some (rR (14, 0, 0)), some (rI (nI s)), some (rI (nI t)), some (rI (nI e)), some (rI (nI w)), some (rI 1), none]) dX6_spawns_42 (by decide) rfl ?_
  refine RD.iload (pc := 44) dX6_spawns_44 rfl ?_
  refine RD.if_eq (pc := 46) 75 dX6_spawns_46 (by decide) (fun c46 => absurd c46 (by decide)) (fun c46 => ?_)
  refine RD.iload (pc := 49) dX6_spawns_49 rfl ?_
  refine RD.iconst (pc := 51) (v := 1) dX6_spawns_51 (by decide) ?_
  refine RD.sipush (pc := 52) (v := 128) dX6_spawns_52 (by decide) ?_
  refine RD.cS3 (pc := 55) dX6_spawns_55 mlX6_63 (c_mIsInG K _ D (nI w) 1 128) (leb rfl) ?_
  refine RD.if_eq (pc := 58) 75 dX6_spawns_58 (by decide) (fun c58 => absurd c58 (by rw [show inB (nI w) 1 128 = true from inB_nI (lo := 1) (hi := 128) h1w hw (by decide)]; decide)) (fun c58 => ?_)
  refine RD.iload_n (pc := 61) dX6_spawns_61 rfl ?_
  refine RD.iconst (pc := 62) (v := 0) dX6_spawns_62 (by decide) ?_
  refine RD.sipush (pc := 63) (v := 128) dX6_spawns_63 (by decide) ?_
  refine RD.iload (pc := 66) dX6_spawns_66 rfl ?_
  refine RD.isub (pc := 68) dX6_spawns_68 ?_
  refine RD.cS3 (pc := 69) dX6_spawns_69 mlX6_63 (c_mIsInG K _ D (nI e) 0 (128 - (nI w))) (leb rfl) ?_
  refine RD.if_ne (pc := 72) 77 dX6_spawns_72 (by decide) (fun c72 => ?_) (fun c72 => absurd c72 (by rw [show (128 : Int32) = nI 128 from rfl, pk_sub hw, show inB (nI e) 0 (nI (128 - w)) = true from inB_nI (lo := 0) (Nat.zero_le _) (by omega) (by omega)]; decide))
  refine RD.iconst (pc := 77) (v := 0) dX6_spawns_77 (by decide) ?_
  refine RD.istore (pc := 78) (ls' := [some (rR (14, 0, 0)), some (rI (nI s)), some (rI (nI t)), some (rI (nI e)), some (rI (nI w)), some (rI 1), some (rI 0)]) dX6_spawns_78 (by decide) rfl ?_
  have h := l_spawns K d hs ht hst hw hew D hB (w + 1) 0 (by omega) (by omega)
  rw [mmcp_0] at h
  exact h

set_option maxRecDepth 20000 in
set_option maxHeartbeats 1000000 in
theorem m_spawns0 (K : EK) (d : Nat) {s : Nat} (hs : s < 8) (D : DT) (a b n : Int32) (h : ¬ mspOK D s a b n) : CF K mX6_spawns (d + 1) [rR (14, 0, 0), rI (nI s), rI a, rI b, rI n] D (some (rI 0)) D := by
  refine CF.of [some (rR (14, 0, 0)), some (rI (nI s)), some (rI a), some (rI b), some (rI n), none, none] (by decide) (leb rfl) rfl ?_
  refine RD.iload_n (pc := 0) dX6_spawns_0 rfl ?_
  refine RD.iconst (pc := 1) (v := 1) dX6_spawns_1 (by decide) ?_
  refine RD.bipush (pc := 2) (v := 7) dX6_spawns_2 (by decide) ?_
  refine RD.cS3 (pc := 4) dX6_spawns_4 mlX6_63 (c_mIsInG K _ D a 1 7) (leb rfl) ?_
  refine RD.if_eq (pc := 7) 41 dX6_spawns_7 (by decide) (fun c7 => ?_) (fun c7 => ?_)
  · refine RD.iconst (pc := 41) (v := 0) dX6_spawns_41 (by decide) ?_
    refine RD.istore (pc := 42) (ls' := [some (rR (14, 0, 0)), some (rI (nI s)), some (rI a), some (rI b), some (rI n), some (rI 0), none]) dX6_spawns_42 (by decide) rfl ?_
    refine RD.iload (pc := 44) dX6_spawns_44 rfl ?_
    refine RD.if_eq (pc := 46) 75 dX6_spawns_46 (by decide) (fun c46 => ?_) (fun c46 => absurd rfl c46)
    refine RD.iconst (pc := 75) (v := 0) dX6_spawns_75 (by decide) ?_
    refine RD.ireturn (pc := 76) dX6_spawns_76 rfl rfl ?_
    exact ⟨rfl, rfl⟩
  · refine RD.iload_n (pc := 10) dX6_spawns_10 rfl ?_
    refine RD.iconst (pc := 11) (v := 1) dX6_spawns_11 (by decide) ?_
    refine RD.isub (pc := 12) dX6_spawns_12 ?_
    refine RD.iconst (pc := 13) (v := 2) dX6_spawns_13 (by decide) ?_
    refine RD.idiv (pc := 14) dX6_spawns_14 (by decide) ?_
    refine RD.iload_n (pc := 15) dX6_spawns_15 rfl ?_
    refine RD.icmp_ne (pc := 16) 41 dX6_spawns_16 (by decide) (fun c16 => ?_) (fun c16 => ?_)
    · refine RD.iconst (pc := 41) (v := 0) dX6_spawns_41 (by decide) ?_
      refine RD.istore (pc := 42) (ls' := [some (rR (14, 0, 0)), some (rI (nI s)), some (rI a), some (rI b), some (rI n), some (rI 0), none]) dX6_spawns_42 (by decide) rfl ?_
      refine RD.iload (pc := 44) dX6_spawns_44 rfl ?_
      refine RD.if_eq (pc := 46) 75 dX6_spawns_46 (by decide) (fun c46 => ?_) (fun c46 => absurd rfl c46)
      refine RD.iconst (pc := 75) (v := 0) dX6_spawns_75 (by decide) ?_
      refine RD.ireturn (pc := 76) dX6_spawns_76 rfl rfl ?_
      exact ⟨rfl, rfl⟩
    · obtain ⟨t, h1t, ht7, rfl⟩ := inB_t (lo := 1) (hi := 7) (by decide) (by decide) (bI_1 c7)
      refine RD.aload_n (pc := 19) dX6_spawns_19 rfl ?_
      refine RD.getR (pc := 20) dX6_spawns_20 flX6_19 ok14 rfl rfl ?_
      refine RD.iload_n (pc := 23) dX6_spawns_23 rfl ?_
      refine RD.iL (pc := 24) (n := 8) t (v := D (15, 3, 0) t) rfl dX6_spawns_24 (ok15 (by decide)) rfl rfl (by omega) (by decide) ?_
      refine RD.if_ne (pc := 25) 41 dX6_spawns_25 (by decide) (fun c25 => ?_) (fun c25 => ?_)
      · refine RD.iconst (pc := 41) (v := 0) dX6_spawns_41 (by decide) ?_
        refine RD.istore (pc := 42) (ls' := [some (rR (14, 0, 0)), some (rI (nI s)), some (rI (nI t)), some (rI b), some (rI n), some (rI 0), none]) dX6_spawns_42 (by decide) rfl ?_
        refine RD.iload (pc := 44) dX6_spawns_44 rfl ?_
        refine RD.if_eq (pc := 46) 75 dX6_spawns_46 (by decide) (fun c46 => ?_) (fun c46 => absurd rfl c46)
        refine RD.iconst (pc := 75) (v := 0) dX6_spawns_75 (by decide) ?_
        refine RD.ireturn (pc := 76) dX6_spawns_76 rfl rfl ?_
        exact ⟨rfl, rfl⟩
      · refine RD.aload_n (pc := 28) dX6_spawns_28 rfl ?_
        refine RD.iload_n (pc := 29) dX6_spawns_29 rfl ?_
        refine RD.iload_n (pc := 30) dX6_spawns_30 rfl ?_
        refine RD.cV2 (pc := 31) dX6_spawns_31 mlX6_79 rfl ok14 rfl (c_isInLabel K _ (l := t) (m := s) (by omega) (by omega) D) (leb rfl) ?_
        refine RD.if_eq (pc := 34) 41 dX6_spawns_34 (by decide) (fun c34 => ?_) (fun c34 => ?_)
        · refine RD.iconst (pc := 41) (v := 0) dX6_spawns_41 (by decide) ?_
          refine RD.istore (pc := 42) (ls' := [some (rR (14, 0, 0)), some (rI (nI s)), some (rI (nI t)), some (rI b), some (rI n), some (rI 0), none]) dX6_spawns_42 (by decide) rfl ?_
          refine RD.iload (pc := 44) dX6_spawns_44 rfl ?_
          refine RD.if_eq (pc := 46) 75 dX6_spawns_46 (by decide) (fun c46 => ?_) (fun c46 => absurd rfl c46)
          refine RD.iconst (pc := 75) (v := 0) dX6_spawns_75 (by decide) ?_
          refine RD.ireturn (pc := 76) dX6_spawns_76 rfl rfl ?_
          exact ⟨rfl, rfl⟩
        · refine RD.iconst (pc := 37) (v := 1) dX6_spawns_37 (by decide) ?_
          refine RD.goto (pc := 38) 42 dX6_spawns_38 (by decide) ?_
          refine RD.istore (pc := 42) (ls' := [some (rR (14, 0, 0)), some (rI (nI s)), some (rI (nI t)), some (rI b), some (rI n), some (rI 1), none]) dX6_spawns_42 (by decide) rfl ?_
          refine RD.iload (pc := 44) dX6_spawns_44 rfl ?_
          refine RD.if_eq (pc := 46) 75 dX6_spawns_46 (by decide) (fun c46 => absurd c46 (by decide)) (fun c46 => ?_)
          refine RD.iload (pc := 49) dX6_spawns_49 rfl ?_
          refine RD.iconst (pc := 51) (v := 1) dX6_spawns_51 (by decide) ?_
          refine RD.sipush (pc := 52) (v := 128) dX6_spawns_52 (by decide) ?_
          refine RD.cS3 (pc := 55) dX6_spawns_55 mlX6_63 (c_mIsInG K _ D n 1 128) (leb rfl) ?_
          refine RD.if_eq (pc := 58) 75 dX6_spawns_58 (by decide) (fun c58 => ?_) (fun c58 => ?_)
          · refine RD.iconst (pc := 75) (v := 0) dX6_spawns_75 (by decide) ?_
            refine RD.ireturn (pc := 76) dX6_spawns_76 rfl rfl ?_
            exact ⟨rfl, rfl⟩
          · refine RD.iload_n (pc := 61) dX6_spawns_61 rfl ?_
            refine RD.iconst (pc := 62) (v := 0) dX6_spawns_62 (by decide) ?_
            refine RD.sipush (pc := 63) (v := 128) dX6_spawns_63 (by decide) ?_
            refine RD.iload (pc := 66) dX6_spawns_66 rfl ?_
            refine RD.isub (pc := 68) dX6_spawns_68 ?_
            refine RD.cS3 (pc := 69) dX6_spawns_69 mlX6_63 (c_mIsInG K _ D b 0 (128 - n)) (leb rfl) ?_
            refine RD.if_ne (pc := 72) 77 dX6_spawns_72 (by decide) (fun c72 => ?_) (fun c72 => ?_)
            · exfalso
              rw [half h1t (by omega)] at c16
              have hpar : (t - 1) / 2 = s := (nI_eq (by omega) (by omega)).mp c16
              obtain ⟨w, h1w, hw, rfl⟩ := inB_t (lo := 1) (hi := 128) (by decide) (by decide) (bI_1 c58)
              rw [show (128 : Int32) = nI 128 from rfl, pk_sub hw] at c72
              obtain ⟨e, -, he, rfl⟩ := inB_t (lo := 0) (by omega) (by decide) (bI_1 c72)
              exact h ⟨t, w, e, h1t, by omega, hpar, rfl, rfl, h1w, hw, rfl, by omega, c25, bI_1 c34⟩
            · refine RD.iconst (pc := 75) (v := 0) dX6_spawns_75 (by decide) ?_
              refine RD.ireturn (pc := 76) dX6_spawns_76 rfl rfl ?_
              exact ⟨rfl, rfl⟩
