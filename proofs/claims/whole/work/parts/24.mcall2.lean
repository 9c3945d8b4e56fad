set_option maxRecDepth 20000 in
set_option maxHeartbeats 2000000 in
theorem l_lists1 (K : EK) (d : Nat) {s : Nat} (hs : s < 8) (D : DT) (p n i4 : Int32) (Q : Option AV → DT → Prop) (hx : RD K mX6_lists (d + 2) 78 [some (rR (14, 0, 0)), some (rI (nI s)), some (rI p), some (rI n), some (rI i4), some (rI (nI 256)), none] [] (zr D (15, 6, 0) 34816 256) Q) : ∀ m k, k ≤ 256 → 257 ≤ k + m → RD K mX6_lists (d + 2) 53 [some (rR (14, 0, 0)), some (rI (nI s)), some (rI p), some (rI n), some (rI i4), some (rI (nI k)), none] [] (zr D (15, 6, 0) 34816 k) Q := by
  intro m
  induction m with
  | zero => intro k h1 h2; omega
  | succ m ih =>
    intro k hk9 hm
    refine RD.iload (pc := 53) dX6_lists_53 rfl ?_
    refine RD.sipush (pc := 55) (v := 256) dX6_lists_55 (by decide) ?_
    refine RD.icmp_ge (pc := 58) 78 dX6_lists_58 (by decide) (fun c58 => ?_) (fun c58 => ?_)
    · have hk8 : k = 256 := by
        have := (nI_leI (a := 256) (b := k) (by decide) (by omega)).mp c58
        omega
      subst hk8
      exact hx
    · have hk : k < 256 := Nat.lt_of_not_le (fun h => c58 (nI_le h (by omega)))
      refine RD.aload_n (pc := 61) dX6_lists_61 rfl ?_
      refine RD.getR (pc := 62) dX6_lists_62 flX6_29 ok14 rfl rfl ?_
      refine RD.ldc (pc := 65) dX6_lists_65 lcX6_100 ?_
      refine RD.iload (pc := 67) dX6_lists_67 rfl ?_
      refine RD.iadd (pc := 69) dX6_lists_69 ?_
      refine RD.eqI (nI_add 34816 k) ?_
      refine RD.iconst (pc := 70) (v := 0) dX6_lists_70 (by decide) ?_
      refine RD.zast (pc := 71) (n := 35072) (34816 + k) dX6_lists_71 (ok15 (by decide)) rfl rfl (by omega) (by decide) rfl ?_
      refine RD.iinc (pc := 72) (ls' := [some (rR (14, 0, 0)), some (rI (nI s)), some (rI p), some (rI n), some (rI i4), some (rI (nI (k + 1))), none]) dX6_lists_72 rfl (nI_1 k) (by decide) rfl ?_
      refine RD.goto (pc := 75) 53 dX6_lists_75 (by decide) ?_
      rw [zr_s]
      exact ih (k + 1) (by omega) (by omega)

set_option maxRecDepth 20000 in
set_option maxHeartbeats 2000000 in
theorem l_listsB (K : EK) (d : Nat) {s : Nat} (hs : s < 8) (D : DT) (p n : Int32) : RD K mX6_lists (d + 2) 50 [some (rR (14, 0, 0)), some (rI (nI s)), some (rI p), some (rI n), some (rI 0), none, none] [] D (fun r0 D0 => r0 = some (rI 0) ∧ D0 = mTrap (zr D (15, 6, 0) 34816 256) s 2) := by
  refine RD.iconst (pc := 50) (v := 0) dX6_lists_50 (by decide) ?_
  refine RD.istore (pc := 51) (ls' := [some (rR (14, 0, 0)), some (rI (nI s)), some (rI p), some (rI n), some (rI 0), some (rI 0), none]) dX6_lists_51 (by decide) rfl ?_
  refine RD.eqD (zr_0 D (15, 6, 0) 34816).symm ?_
  refine l_lists1 K d hs D _ _ _ _ ?_ 257 0 (by omega) (by omega)
  refine RD.iconst (pc := 78) (v := 1) dX6_lists_78 (by decide) ?_
  refine RD.istore (pc := 79) (ls' := [some (rR (14, 0, 0)), some (rI (nI s)), some (rI p), some (rI n), some (rI 0), some (rI 1), none]) dX6_lists_79 (by decide) rfl ?_
  refine RD.iload (pc := 81) dX6_lists_81 rfl ?_
  refine RD.iload_n (pc := 83) dX6_lists_83 rfl ?_
  refine RD.icmp_gt (pc := 84) 138 dX6_lists_84 (by decide) (fun c84 => ?_) (fun c84 => ?_)
  · refine RD.iload (pc := 138) dX6_lists_138 rfl ?_
    refine RD.if_ne (pc := 140) 149 dX6_lists_140 (by decide) (fun c140 => absurd rfl c140) (fun c140 => ?_)
    refine RD.aload_n (pc := 143) dX6_lists_143 rfl ?_
    refine RD.iload_n (pc := 144) dX6_lists_144 rfl ?_
    refine RD.iconst (pc := 145) (v := 2) dX6_lists_145 (by decide) ?_
    refine RD.cV2v (pc := 146) dX6_lists_146 mlX6_90 rfl ok14 rfl (c_traps K _ (s := s) (by omega) (zr D (15, 6, 0) 34816 256) 2) (leb rfl) ?_
    refine RD.iload (pc := 149) dX6_lists_149 rfl ?_
    refine RD.ireturn (pc := 151) dX6_lists_151 rfl rfl ?_
    exact ⟨rfl, rfl⟩
  · refine RD.iload (pc := 87) dX6_lists_87 rfl ?_
    refine RD.if_eq (pc := 89) 138 dX6_lists_89 (by decide) (fun c89 => ?_) (fun c89 => absurd rfl c89)
    refine RD.iload (pc := 138) dX6_lists_138 rfl ?_
    refine RD.if_ne (pc := 140) 149 dX6_lists_140 (by decide) (fun c140 => absurd rfl c140) (fun c140 => ?_)
    refine RD.aload_n (pc := 143) dX6_lists_143 rfl ?_
    refine RD.iload_n (pc := 144) dX6_lists_144 rfl ?_
    refine RD.iconst (pc := 145) (v := 2) dX6_lists_145 (by decide) ?_
    refine RD.cV2v (pc := 146) dX6_lists_146 mlX6_90 rfl ok14 rfl (c_traps K _ (s := s) (by omega) (zr D (15, 6, 0) 34816 256) 2) (leb rfl) ?_
    refine RD.iload (pc := 149) dX6_lists_149 rfl ?_
    refine RD.ireturn (pc := 151) dX6_lists_151 rfl rfl ?_
    exact ⟨rfl, rfl⟩


def mlOK (D : DT) (s : Nat) (a : Int32) : Prop := ∃ q w, q < 128 ∧ a = nI q ∧ D (15, 0, 0) (128 * s + q) = nI w ∧ w ≤ 16 ∧ q + w < 128
def mls (D : DT) (s q : Nat) : Nat → DT
  | 0 => zr D (15, 6, 0) 34816 256
  | k + 1 => if inR (D (15, 0, 0) (128 * s + q + (k + 1))) 256 = true then up (mls D s q k) (15, 6, 0) (34816 + (D (15, 0, 0) (128 * s + q + (k + 1))).toNatClampNeg) 1 else mls D s q k
theorem mls_o {D : DT} {s q k : Nat} {a : AD} (h : a ≠ (15, 6, 0)) : mls D s q k a = D a := by
  induction k with
  | zero => exact zr_o h
  | succ k ih =>
    unfold mls
    split
    · rw [up_n h, ih]
    · exact ih

set_option maxRecDepth 20000 in
set_option maxHeartbeats 1000000 in
theorem m_listsN (K : EK) (d : Nat) {s : Nat} (hs : s < 8) (D : DT) (a : Int32) (h : ¬ mlOK D s a) : CF K mX6_lists (d + 2) [rR (14, 0, 0), rI (nI s), rI a] D (some (rI 0)) (mTrap (zr D (15, 6, 0) 34816 256) s 2) := by
  refine CF.of [some (rR (14, 0, 0)), some (rI (nI s)), some (rI a), none, none, none, none] (by decide) (leb rfl) rfl ?_
  refine RD.iload_n (pc := 0) dX6_lists_0 rfl ?_
  refine RD.cS1 (pc := 1) dX6_lists_1 mlX6_87 (c_mIsCell K _ D a) (leb rfl) ?_
  refine RD.if_eq (pc := 4) 22 dX6_lists_4 (by decide) (fun c4 => ?_) (fun c4 => ?_)
  · refine RD.iconst (pc := 22) (v := (-1)) dX6_lists_22 (by decide) ?_
    refine RD.istore_n (pc := 23) (ls' := [some (rR (14, 0, 0)), some (rI (nI s)), some (rI a), some (rI (-1)), none, none, none]) dX6_lists_23 (by decide) rfl ?_
    refine RD.iload_n (pc := 24) dX6_lists_24 rfl ?_
    refine RD.iconst (pc := 25) (v := 0) dX6_lists_25 (by decide) ?_
    refine RD.bipush (pc := 26) (v := 16) dX6_lists_26 (by decide) ?_
    refine RD.cS3 (pc := 28) dX6_lists_28 mlX6_63 (c_mIsIn K _ D (-1) 16 (by decide)) (leb rfl) ?_
    refine RD.if_eq (pc := 31) 47 dX6_lists_31 (by decide) (fun c31 => ?_) (fun c31 => ?_)
    · refine RD.iconst (pc := 47) (v := 0) dX6_lists_47 (by decide) ?_
      refine RD.istore (pc := 48) (ls' := [some (rR (14, 0, 0)), some (rI (nI s)), some (rI a), some (rI (-1)), some (rI 0), none, none]) dX6_lists_48 (by decide) rfl ?_
      exact l_listsB K d hs D _ _
    · refine RD.iload_n (pc := 34) dX6_lists_34 rfl ?_
      refine RD.iload_n (pc := 35) dX6_lists_35 rfl ?_
      refine RD.iadd (pc := 36) dX6_lists_36 ?_
      refine RD.cS1 (pc := 37) dX6_lists_37 mlX6_87 (c_mIsCell K _ D (a + (-1))) (leb rfl) ?_
      refine RD.if_eq (pc := 40) 47 dX6_lists_40 (by decide) (fun c40 => ?_) (fun c40 => ?_)
      · refine RD.iconst (pc := 47) (v := 0) dX6_lists_47 (by decide) ?_
        refine RD.istore (pc := 48) (ls' := [some (rR (14, 0, 0)), some (rI (nI s)), some (rI a), some (rI (-1)), some (rI 0), none, none]) dX6_lists_48 (by decide) rfl ?_
        exact l_listsB K d hs D _ _
      · refine RD.iconst (pc := 43) (v := 1) dX6_lists_43 (by decide) ?_
        refine RD.goto (pc := 44) 48 dX6_lists_44 (by decide) ?_
        exact absurd (bI_1 c31) (by decide)
  · obtain ⟨q, hq, rfl⟩ := inR_t (N := 128) (by decide) (bI_1 c4)
    refine RD.aload_n (pc := 7) dX6_lists_7 rfl ?_
    refine RD.getR (pc := 8) dX6_lists_8 flX6_9 ok14 rfl rfl ?_
    refine RD.sipush (pc := 11) (v := 128) dX6_lists_11 (by decide) ?_
    refine RD.iload_n (pc := 14) dX6_lists_14 rfl ?_
    refine RD.imul (pc := 15) dX6_lists_15 ?_
    refine RD.eqI (pk_mul 128 s) ?_
    refine RD.iload_n (pc := 16) dX6_lists_16 rfl ?_
    refine RD.iadd (pc := 17) dX6_lists_17 ?_
    refine RD.eqI (nI_add (128 * s) q) ?_
    refine RD.iL (pc := 18) (n := 1024) ((128 * s) + q) (v := D (15, 0, 0) ((128 * s) + q)) rfl dX6_lists_18 (ok15 (by decide)) rfl rfl (by omega) (by decide) ?_
    refine RD.goto (pc := 19) 23 dX6_lists_19 (by decide) ?_
    refine RD.istore_n (pc := 23) (ls' := [some (rR (14, 0, 0)), some (rI (nI s)), some (rI (nI q)), some (rI (D (15, 0, 0) ((128 * s) + q))), none, none, none]) dX6_lists_23 (by decide) rfl ?_
    refine RD.iload_n (pc := 24) dX6_lists_24 rfl ?_
    refine RD.iconst (pc := 25) (v := 0) dX6_lists_25 (by decide) ?_
    refine RD.bipush (pc := 26) (v := 16) dX6_lists_26 (by decide) ?_
    refine RD.cS3 (pc := 28) dX6_lists_28 mlX6_63 (c_mIsIn K _ D (D (15, 0, 0) ((128 * s) + q)) 16 (by decide)) (leb rfl) ?_
    refine RD.if_eq (pc := 31) 47 dX6_lists_31 (by decide) (fun c31 => ?_) (fun c31 => ?_)
    · refine RD.iconst (pc := 47) (v := 0) dX6_lists_47 (by decide) ?_
      refine RD.istore (pc := 48) (ls' := [some (rR (14, 0, 0)), some (rI (nI s)), some (rI (nI q)), some (rI (D (15, 0, 0) ((128 * s) + q))), some (rI 0), none, none]) dX6_lists_48 (by decide) rfl ?_
      exact l_listsB K d hs D _ _
    · refine RD.iload_n (pc := 34) dX6_lists_34 rfl ?_
      refine RD.iload_n (pc := 35) dX6_lists_35 rfl ?_
      refine RD.iadd (pc := 36) dX6_lists_36 ?_
      refine RD.cS1 (pc := 37) dX6_lists_37 mlX6_87 (c_mIsCell K _ D ((nI q) + (D (15, 0, 0) ((128 * s) + q)))) (leb rfl) ?_
      refine RD.if_eq (pc := 40) 47 dX6_lists_40 (by decide) (fun c40 => ?_) (fun c40 => ?_)
      · refine RD.iconst (pc := 47) (v := 0) dX6_lists_47 (by decide) ?_
        refine RD.istore (pc := 48) (ls' := [some (rR (14, 0, 0)), some (rI (nI s)), some (rI (nI q)), some (rI (D (15, 0, 0) ((128 * s) + q))), some (rI 0), none, none]) dX6_lists_48 (by decide) rfl ?_
        exact l_listsB K d hs D _ _
      · refine RD.iconst (pc := 43) (v := 1) dX6_lists_43 (by decide) ?_
        refine RD.goto (pc := 44) 48 dX6_lists_44 (by decide) ?_
        exfalso
        obtain ⟨w, hw, hv⟩ := inR_t (N := 17) (by decide) (bI_1 c31)
        rw [hv, nI_add] at c40
        obtain ⟨u, hu, hv2⟩ := inR_t (N := 128) (by decide) (bI_1 c40)
        rw [nI_eq (by omega) (by omega)] at hv2
        exact h ⟨q, w, hq, rfl, hv, by omega, by omega⟩

set_option maxRecDepth 20000 in
set_option maxHeartbeats 2000000 in
theorem l_listsG (K : EK) (d : Nat) {s q w : Nat} (hs : s < 8) (hq : q < 128) (hw : w ≤ 16) (hqw : q + w < 128) (D : DT) : ∀ n k, k ≤ w → w + 1 ≤ k + n → RD K mX6_lists (d + 2) 81 [some (rR (14, 0, 0)), some (rI (nI s)), some (rI (nI q)), some (rI (nI w)), some (rI 1), some (rI (nI (k + 1))), none] [] (mls D s q k) (fun r0 D0 => r0 = some (rI 1) ∧ D0 = mls D s q w) := by
  intro n
  induction n with
  | zero => intro k h1 h2; omega
  | succ n ih =>
    intro k hkw9 hn
    refine RD.iload (pc := 81) dX6_lists_81 rfl ?_
    refine RD.iload_n (pc := 83) dX6_lists_83 rfl ?_
    refine RD.icmp_gt (pc := 84) 138 dX6_lists_84 (by decide) (fun c84 => ?_) (fun c84 => ?_)
    · have hkw : k = w := by
        have := (not_congr (nI_leI (a := k + 1) (b := w) (by omega) (by omega))).mp (Int32.not_le.mpr c84)
        omega
      subst hkw
      refine RD.iload (pc := 138) dX6_lists_138 rfl ?_
      refine RD.if_ne (pc := 140) 149 dX6_lists_140 (by decide) (fun c140 => ?_) (fun c140 => absurd c140 (by decide))
      refine RD.iload (pc := 149) dX6_lists_149 rfl ?_
      refine RD.ireturn (pc := 151) dX6_lists_151 rfl rfl ?_
      exact ⟨rfl, rfl⟩
    · have hkw : k < w := Nat.lt_of_not_le (fun h => c84 (nI_lt (a := w) (b := k + 1) (by omega) (by omega)))
      refine RD.iload (pc := 87) dX6_lists_87 rfl ?_
      refine RD.if_eq (pc := 89) 138 dX6_lists_89 (by decide) (fun c89 => absurd c89 (by decide)) (fun c89 => ?_)
      refine RD.aload_n (pc := 92) dX6_lists_92 rfl ?_
      refine RD.getR (pc := 93) dX6_lists_93 flX6_9 ok14 rfl rfl ?_
      refine RD.sipush (pc := 96) (v := 128) dX6_lists_96 (by decide) ?_
      refine RD.iload_n (pc := 99) dX6_lists_99 rfl ?_
      refine RD.imul (pc := 100) dX6_lists_100 ?_
      refine RD.eqI (pk_mul 128 s) ?_
      refine RD.iload_n (pc := 101) dX6_lists_101 rfl ?_
      refine RD.iadd (pc := 102) dX6_lists_102 ?_
      refine RD.eqI (nI_add (128 * s) q) ?_
      refine RD.iload (pc := 103) dX6_lists_103 rfl ?_
      refine RD.iadd (pc := 105) dX6_lists_105 ?_
      refine RD.eqI (nI_add ((128 * s) + q) (k + 1)) ?_
      refine RD.iL (pc := 106) (n := 1024) (((128 * s) + q) + (k + 1)) (v := D (15, 0, 0) (128 * s + q + (k + 1))) (congrFun (mls_o (by simp)) _) dX6_lists_106 (ok15 (by decide)) rfl rfl (by omega) (by decide) ?_
      refine RD.istore (pc := 107) (ls' := [some (rR (14, 0, 0)), some (rI (nI s)), some (rI (nI q)), some (rI (nI w)), some (rI 1), some (rI (nI (k + 1))), some (rI (D (15, 0, 0) (128 * s + q + (k + 1))))]) dX6_lists_107 (by decide) rfl ?_
      refine RD.iload (pc := 109) dX6_lists_109 rfl ?_
      refine RD.iconst (pc := 111) (v := 0) dX6_lists_111 (by decide) ?_
      refine RD.sipush (pc := 112) (v := 255) dX6_lists_112 (by decide) ?_
      refine RD.cS3 (pc := 115) dX6_lists_115 mlX6_63 (c_mIsIn K _ (mls D s q k) (D (15, 0, 0) (128 * s + q + (k + 1))) 255 (by decide)) (leb rfl) ?_
      refine RD.if_eq (pc := 118) 132 dX6_lists_118 (by decide) (fun c118 => ?_) (fun c118 => ?_)
      · rw [show mls D s q k = mls D s q (k + 1) by simp [mls, bI_0 c118]]
        refine RD.forget 6 (ls' := [some (rR (14, 0, 0)), some (rI (nI s)), some (rI (nI q)), some (rI (nI w)), some (rI 1), some (rI (nI (k + 1))), none]) rfl ?_
        refine RD.iinc (pc := 132) (ls' := [some (rR (14, 0, 0)), some (rI (nI s)), some (rI (nI q)), some (rI (nI w)), some (rI 1), some (rI (nI (k + 1 + 1))), none]) dX6_lists_132 rfl (nI_1 (k + 1)) (by decide) rfl ?_
        refine RD.goto (pc := 135) 81 dX6_lists_135 (by decide) ?_
        exact ih (k + 1) (by omega) (by omega)
      · obtain ⟨u, hu, hv⟩ := inR_t (N := 256) (by decide) (bI_1 c118)
        refine RD.aload_n (pc := 121) dX6_lists_121 rfl ?_
        refine RD.getR (pc := 122) dX6_lists_122 flX6_29 ok14 rfl rfl ?_
        refine RD.ldc (pc := 125) dX6_lists_125 lcX6_100 ?_
        refine RD.iload (pc := 127) dX6_lists_127 rfl ?_
        refine RD.iadd (pc := 129) dX6_lists_129 ?_
        refine RD.iconst (pc := 130) (v := 1) dX6_lists_130 (by decide) ?_
        refine RD.zast (pc := 131) (n := 35072) (34816 + u) dX6_lists_131 (ok15 (by decide)) rfl (by rw [hv]; exact nI_add 34816 u) (by omega) (by decide) rfl ?_
        refine RD.eqD (D' := mls D s q (k + 1)) (by simp [mls, hv, inR_nI (n := u) (N := 256) (by decide) hu, nI_clamp (n := u) (by omega)]) ?_
        refine RD.forget 6 (ls' := [some (rR (14, 0, 0)), some (rI (nI s)), some (rI (nI q)), some (rI (nI w)), some (rI 1), some (rI (nI (k + 1))), none]) rfl ?_
        refine RD.iinc (pc := 132) (ls' := [some (rR (14, 0, 0)), some (rI (nI s)), some (rI (nI q)), some (rI (nI w)), some (rI 1), some (rI (nI (k + 1 + 1))), none]) dX6_lists_132 rfl (nI_1 (k + 1)) (by decide) rfl ?_
        refine RD.goto (pc := 135) 81 dX6_lists_135 (by decide) ?_
        exact ih (k + 1) (by omega) (by omega)

set_option maxRecDepth 20000 in
set_option maxHeartbeats 1000000 in
theorem m_lists (K : EK) (d : Nat) {s q w : Nat} (hs : s < 8) (hq : q < 128) (hw : w ≤ 16) (hqw : q + w < 128) (D : DT) (hv : D (15, 0, 0) (128 * s + q) = nI w) : CF K mX6_lists (d + 2) [rR (14, 0, 0), rI (nI s), rI (nI q)] D (some (rI 1)) (mls D s q w) := by
  refine CF.of [some (rR (14, 0, 0)), some (rI (nI s)), some (rI (nI q)), none, none, none, none] (by decide) (leb rfl) rfl ?_
  refine RD.iload_n (pc := 0) dX6_lists_0 rfl ?_
  refine RD.cS1 (pc := 1) dX6_lists_1 mlX6_87 (c_mIsCell K _ D (nI q)) (leb rfl) ?_
  refine RD.if_eq (pc := 4) 22 dX6_lists_4 (by decide) (fun c4 => absurd c4 (bIin (by decide) hq)) (fun c4 => ?_)
  refine RD.aload_n (pc := 7) dX6_lists_7 rfl ?_
  refine RD.getR (pc := 8) dX6_lists_8 flX6_9 ok14 rfl rfl ?_
  refine RD.sipush (pc := 11) (v := 128) dX6_lists_11 (by decide) ?_
  refine RD.iload_n (pc := 14) dX6_lists_14 rfl ?_
  refine RD.imul (pc := 15) dX6_lists_15 ?_
  refine RD.eqI (pk_mul 128 s) ?_
  refine RD.iload_n (pc := 16) dX6_lists_16 rfl ?_
  refine RD.iadd (pc := 17) dX6_lists_17 ?_
  refine RD.eqI (nI_add (128 * s) q) ?_
  refine RD.iL (pc := 18) (n := 1024) ((128 * s) + q) (v := nI w) hv dX6_lists_18 (ok15 (by decide)) rfl rfl (by omega) (by decide) ?_
  refine RD.goto (pc := 19) 23 dX6_lists_19 (by decide) ?_
  refine RD.istore_n (pc := 23) (ls' := [some (rR (14, 0, 0)), some (rI (nI s)), some (rI (nI q)), some (rI (nI w)), none, none, none]) dX6_lists_23 (by decide) rfl ?_
  refine RD.iload_n (pc := 24) dX6_lists_24 rfl ?_
  refine RD.iconst (pc := 25) (v := 0) dX6_lists_25 (by decide) ?_
  refine RD.bipush (pc := 26) (v := 16) dX6_lists_26 (by decide) ?_
  refine RD.cS3 (pc := 28) dX6_lists_28 mlX6_63 (c_mIsIn K _ D (nI w) 16 (by decide)) (leb rfl) ?_
  refine RD.if_eq (pc := 31) 47 dX6_lists_31 (by decide) (fun c31 => absurd c31 (bIin (by decide) (show w < 17 by omega))) (fun c31 => ?_)
  refine RD.iload_n (pc := 34) dX6_lists_34 rfl ?_
  refine RD.iload_n (pc := 35) dX6_lists_35 rfl ?_
  refine RD.iadd (pc := 36) dX6_lists_36 ?_
  refine RD.eqI (nI_add q w) ?_
  refine RD.cS1 (pc := 37) dX6_lists_37 mlX6_87 (c_mIsCell K _ D (nI (q + w))) (leb rfl) ?_
  refine RD.if_eq (pc := 40) 47 dX6_lists_40 (by decide) (fun c40 => absurd c40 (bIin (by decide) hqw)) (fun c40 => ?_)
  refine RD.iconst (pc := 43) (v := 1) dX6_lists_43 (by decide) ?_
  refine RD.goto (pc := 44) 48 dX6_lists_44 (by decide) ?_
  refine RD.istore (pc := 48) (ls' := [some (rR (14, 0, 0)), some (rI (nI s)), some (rI (nI q)), some (rI (nI w)), some (rI 1), none, none]) dX6_lists_48 (by decide) rfl ?_
  refine RD.iconst (pc := 50) (v := 0) dX6_lists_50 (by decide) ?_
  refine RD.istore (pc := 51) (ls' := [some (rR (14, 0, 0)), some (rI (nI s)), some (rI (nI q)), some (rI (nI w)), some (rI 1), some (rI 0), none]) dX6_lists_51 (by decide) rfl ?_
  refine RD.eqD (zr_0 D (15, 6, 0) 34816).symm ?_
  refine l_lists1 K d hs D _ _ _ _ ?_ 257 0 (by omega) (by omega)
  refine RD.iconst (pc := 78) (v := 1) dX6_lists_78 (by decide) ?_
  refine RD.istore (pc := 79) (ls' := [some (rR (14, 0, 0)), some (rI (nI s)), some (rI (nI q)), some (rI (nI w)), some (rI 1), some (rI 1), none]) dX6_lists_79 (by decide) rfl ?_
  exact l_listsG K d hs hq hw hqw D (w + 1) 0 (by omega) (by omega)


def mchP (D : DT) (s t : Nat) : Bool := decide (D (15, 6, 0) (256 * s + t) = D (15, 6, 0) (34816 + t)) || (if D (15, 6, 0) (34816 + t) = 0 then cpB D (8 * 1 + s) t else cpB D (8 * 0 + s) t)
def mchC (D : DT) (s : Nat) : Bool := allN (mchP D s) 256
theorem allN_f {p : Nat → Bool} {k n : Nat} (hk : k < n) (h : p k = false) : allN p n = false := by
  induction n with
  | zero => omega
  | succ n ih =>
    unfold allN
    by_cases e : k = n
    · subst e; rw [h, Bool.and_false]
    · rw [ih (by omega), Bool.false_and]
theorem allN_iff {p : Nat → Bool} {n : Nat} : allN p n = true ↔ ∀ k, k < n → p k = true := by
  induction n with
  | zero => simp [allN]
  | succ n ih =>
    unfold allN
    rw [Bool.and_eq_true, ih]
    constructor
    · rintro ⟨h1, h2⟩ k hk
      by_cases e : k = n
      · rw [e]; exact h2
      · exact h1 k (by omega)
    · intro h
      exact ⟨fun k hk => h k (by omega), h n (by omega)⟩

set_option maxRecDepth 20000 in
set_option maxHeartbeats 2000000 in
theorem l_changes (K : EK) (d : Nat) {s : Nat} (hs : s < 8) (D : DT) (hB : ∀ u, u < 35072 → isB (D (15, 6, 0) u)) : ∀ n k, k ≤ 256 → 257 ≤ k + n → (∀ t, t < k → mchP D s t = true) → RD K mX6_changes (d + 1) 2 [some (rR (14, 0, 0)), some (rI (nI s)), some (rI (nI k)), none, none] [] D (fun r0 D0 => r0 = some (rI (bI (mchC D s))) ∧ D0 = if mchC D s = true then lcp D 136 s 256 else D) := by
  intro n
  induction n with
  | zero =>
    intro k hk9 hn hA
    omega
  | succ n ih =>
    intro k hk9 hn hA
    refine RD.iload_n (pc := 2) dX6_changes_2 rfl ?_
    refine RD.sipush (pc := 3) (v := 256) dX6_changes_3 (by decide) ?_
    refine RD.icmp_ge (pc := 6) 71 dX6_changes_6 (by decide) (fun c6 => ?_) (fun c6 => ?_)
    · have hk8 : k = 256 := by
        have := (nI_leI (a := 256) (b := k) (by decide) (by omega)).mp c6
        omega
      subst hk8
      have hC : mchC D s = true := allN_iff.mpr hA
      refine RD.aload_n (pc := 71) dX6_changes_71 rfl ?_
      refine RD.sipush (pc := 72) (v := 136) dX6_changes_72 (by decide) ?_
      refine RD.iload_n (pc := 75) dX6_changes_75 rfl ?_
      refine RD.cV2v (pc := 76) dX6_changes_76 mlX6_71 rfl ok14 rfl (c_copyLabel K _ (l := 136) (m := s) (by omega) (by omega) (by omega) D (fun u hu => hB _ (by omega))) (leb rfl) ?_
      refine RD.iconst (pc := 79) (v := 1) dX6_changes_79 (by decide) ?_
      refine RD.ireturn (pc := 80) dX6_changes_80 rfl rfl ?_
      exact ⟨by rw [hC]; rfl, by rw [hC]; rfl⟩
    · have hk : k < 256 := Nat.lt_of_not_le (fun h => c6 (nI_le h (by omega)))
      refine RD.aload_n (pc := 9) dX6_changes_9 rfl ?_
      refine RD.getR (pc := 10) dX6_changes_10 flX6_29 ok14 rfl rfl ?_
      refine RD.sipush (pc := 13) (v := 256) dX6_changes_13 (by decide) ?_
      refine RD.iload_n (pc := 16) dX6_changes_16 rfl ?_
      refine RD.imul (pc := 17) dX6_changes_17 ?_
      refine RD.eqI (pk_mul 256 s) ?_
      refine RD.iload_n (pc := 18) dX6_changes_18 rfl ?_
      refine RD.iadd (pc := 19) dX6_changes_19 ?_
      refine RD.eqI (nI_add (256 * s) k) ?_
      refine RD.zL (pc := 20) (n := 35072) ((256 * s) + k) (v := D (15, 6, 0) ((256 * s) + k)) rfl dX6_changes_20 (ok15 (by decide)) rfl rfl (by omega) (by decide) ?_
      refine RD.istore_n (pc := 21) (ls' := [some (rR (14, 0, 0)), some (rI (nI s)), some (rI (nI k)), some (rI (D (15, 6, 0) ((256 * s) + k))), none]) dX6_changes_21 (by decide) rfl ?_
      refine RD.aload_n (pc := 22) dX6_changes_22 rfl ?_
      refine RD.getR (pc := 23) dX6_changes_23 flX6_29 ok14 rfl rfl ?_
      refine RD.ldc (pc := 26) dX6_changes_26 lcX6_100 ?_
      refine RD.iload_n (pc := 28) dX6_changes_28 rfl ?_
      refine RD.iadd (pc := 29) dX6_changes_29 ?_
      refine RD.eqI (nI_add 34816 k) ?_
      refine RD.zL (pc := 30) (n := 35072) (34816 + k) (v := D (15, 6, 0) (34816 + k)) rfl dX6_changes_30 (ok15 (by decide)) rfl rfl (by omega) (by decide) ?_
      refine RD.istore (pc := 31) (ls' := [some (rR (14, 0, 0)), some (rI (nI s)), some (rI (nI k)), some (rI (D (15, 6, 0) ((256 * s) + k))), some (rI (D (15, 6, 0) (34816 + k)))]) dX6_changes_31 (by decide) rfl ?_
      refine RD.iload_n (pc := 33) dX6_changes_33 rfl ?_
      refine RD.iload (pc := 34) dX6_changes_34 rfl ?_
      refine RD.icmp_eq (pc := 36) 65 dX6_changes_36 (by decide) (fun c36 => ?_) (fun c36 => ?_)
      · have hP : mchP D s k = true := by simp [mchP, c36]
        refine RD.forget 4 (ls' := [some (rR (14, 0, 0)), some (rI (nI s)), some (rI (nI k)), some (rI (D (15, 6, 0) ((256 * s) + k))), none]) rfl ?_
        refine RD.forget 3 (ls' := [some (rR (14, 0, 0)), some (rI (nI s)), some (rI (nI k)), none, none]) rfl ?_
        refine RD.iinc (pc := 65) (ls' := [some (rR (14, 0, 0)), some (rI (nI s)), some (rI (nI (k + 1))), none, none]) dX6_changes_65 rfl (nI_1 k) (by decide) rfl ?_
        refine RD.goto (pc := 68) 2 dX6_changes_68 (by decide) ?_
        exact ih (k + 1) (by omega) (by omega) (lt_s hA hP)
      · refine RD.aload_n (pc := 39) dX6_changes_39 rfl ?_
        refine RD.getR (pc := 40) dX6_changes_40 flX6_33 ok14 rfl rfl ?_
        refine RD.aload_n (pc := 43) dX6_changes_43 rfl ?_
        refine RD.iload_n (pc := 44) dX6_changes_44 rfl ?_
        refine RD.iload (pc := 45) dX6_changes_45 rfl ?_
        refine RD.if_eq (pc := 47) 54 dX6_changes_47 (by decide) (fun c47 => ?_) (fun c47 => ?_)
        · refine RD.iconst (pc := 54) (v := 1) dX6_changes_54 (by decide) ?_
          refine RD.iload_n (pc := 55) dX6_changes_55 rfl ?_
          refine RD.cV3 (pc := 56) dX6_changes_56 mlX6_67 rfl ok14 rfl (c_at K _ D s 1 k) (leb rfl) ?_
          refine RD.zL (pc := 59) (n := 4096) (256 * (8 * 1 + s) + k) (v := D (15, 7, 0) (256 * (8 * 1 + s) + k)) rfl dX6_changes_59 (ok15 (by decide)) rfl rfl (by omega) (by decide) ?_
          refine RD.if_ne (pc := 60) 65 dX6_changes_60 (by decide) (fun c60 => ?_) (fun c60 => ?_)
          · have hP : mchP D s k = true := by rw [mchP, if_pos c47, cpB, decide_eq_false c60]; exact Bool.or_true _
            refine RD.forget 4 (ls' := [some (rR (14, 0, 0)), some (rI (nI s)), some (rI (nI k)), some (rI (D (15, 6, 0) ((256 * s) + k))), none]) rfl ?_
            refine RD.forget 3 (ls' := [some (rR (14, 0, 0)), some (rI (nI s)), some (rI (nI k)), none, none]) rfl ?_
            refine RD.iinc (pc := 65) (ls' := [some (rR (14, 0, 0)), some (rI (nI s)), some (rI (nI (k + 1))), none, none]) dX6_changes_65 rfl (nI_1 k) (by decide) rfl ?_
            refine RD.goto (pc := 68) 2 dX6_changes_68 (by decide) ?_
            exact ih (k + 1) (by omega) (by omega) (lt_s hA hP)
          · refine RD.iconst (pc := 63) (v := 0) dX6_changes_63 (by decide) ?_
            refine RD.ireturn (pc := 64) dX6_changes_64 rfl rfl ?_
            have hP : mchC D s = false := allN_f hk (by rw [mchP, decide_eq_false c36, if_pos c47, cpB, decide_eq_true c60]; rfl)
            exact ⟨by rw [hP]; rfl, by rw [hP]; rfl⟩
        · refine RD.iconst (pc := 50) (v := 0) dX6_changes_50 (by decide) ?_
          refine RD.goto (pc := 51) 55 dX6_changes_51 (by decide) ?_
          refine RD.iload_n (pc := 55) dX6_changes_55 rfl ?_
          refine RD.cV3 (pc := 56) dX6_changes_56 mlX6_67 rfl ok14 rfl (c_at K _ D s 0 k) (leb rfl) ?_
          refine RD.zL (pc := 59) (n := 4096) (256 * (8 * 0 + s) + k) (v := D (15, 7, 0) (256 * (8 * 0 + s) + k)) rfl dX6_changes_59 (ok15 (by decide)) rfl rfl (by omega) (by decide) ?_
          refine RD.if_ne (pc := 60) 65 dX6_changes_60 (by decide) (fun c60 => ?_) (fun c60 => ?_)
          · have hP : mchP D s k = true := by rw [mchP, if_neg c47, cpB, decide_eq_false c60]; exact Bool.or_true _
            refine RD.forget 4 (ls' := [some (rR (14, 0, 0)), some (rI (nI s)), some (rI (nI k)), some (rI (D (15, 6, 0) ((256 * s) + k))), none]) rfl ?_
            refine RD.forget 3 (ls' := [some (rR (14, 0, 0)), some (rI (nI s)), some (rI (nI k)), none, none]) rfl ?_
            refine RD.iinc (pc := 65) (ls' := [some (rR (14, 0, 0)), some (rI (nI s)), some (rI (nI (k + 1))), none, none]) dX6_changes_65 rfl (nI_1 k) (by decide) rfl ?_
            refine RD.goto (pc := 68) 2 dX6_changes_68 (by decide) ?_
            exact ih (k + 1) (by omega) (by omega) (lt_s hA hP)
          · refine RD.iconst (pc := 63) (v := 0) dX6_changes_63 (by decide) ?_
            refine RD.ireturn (pc := 64) dX6_changes_64 rfl rfl ?_
            have hP : mchC D s = false := allN_f hk (by rw [mchP, decide_eq_false c36, if_neg c47, cpB, decide_eq_true c60]; rfl)
            exact ⟨by rw [hP]; rfl, by rw [hP]; rfl⟩

set_option maxRecDepth 20000 in
set_option maxHeartbeats 1000000 in
theorem m_changes (K : EK) (d : Nat) {s : Nat} (hs : s < 8) (D : DT) (hB : ∀ u, u < 35072 → isB (D (15, 6, 0) u)) : CF K mX6_changes (d + 1) [rR (14, 0, 0), rI (nI s)] D (some (rI (bI (mchC D s)))) (if mchC D s = true then lcp D 136 s 256 else D) := by
  refine CF.of [some (rR (14, 0, 0)), some (rI (nI s)), none, none, none] (by decide) (leb rfl) rfl ?_
  refine RD.iconst (pc := 0) (v := 0) dX6_changes_0 (by decide) ?_
  refine RD.istore_n (pc := 1) (ls' := [some (rR (14, 0, 0)), some (rI (nI s)), some (rI 0), none, none]) dX6_changes_1 (by decide) rfl ?_
  exact l_changes K d hs D hB 257 0 (by omega) (by omega) (fun t ht => absurd ht (Nat.not_lt_zero t))


def mlfr (D : DT) (s : Nat) : Nat → Nat → Nat
  | 0, k => k
  | n + 1, k => if D (15, 8, 0) (8 * s + k) = 0 then k else mlfr D s n (k + 1)
def mcrF (D : DT) (f : Nat) : DT := zr (lcp (up D (15, 8, 0) f 1) 136 (8 + f) 256) (15, 9, 0) (8 * f) 8

set_option maxRecDepth 20000 in
set_option maxHeartbeats 2000000 in
theorem l_creates1 (K : EK) (d : Nat) {s : Nat} (hs : s < 8) (D : DT) (Q : Option AV → DT → Prop) : ∀ n k, k + n = 8 → RD K mX6_creates (d + 1) 28 [some (rR (14, 0, 0)), some (rI (nI s)), some (rI (nI (mlfr D s n k))), none, none] [] D Q → RD K mX6_creates (d + 1) 2 [some (rR (14, 0, 0)), some (rI (nI s)), some (rI (nI k)), none, none] [] D Q := by
  intro n
  induction n with
  | zero =>
    intro k hk hx
    refine RD.iload_n (pc := 2) dX6_creates_2 rfl ?_
    refine RD.bipush (pc := 3) (v := 8) dX6_creates_3 (by decide) ?_
    refine RD.icmp_ge (pc := 5) 28 dX6_creates_5 (by decide) (fun _ => hx) (fun c5 => absurd (nI_le (a := 8) (b := k) (by omega) (by omega)) c5)
  | succ n ih =>
    intro k hk hx
    refine RD.iload_n (pc := 2) dX6_creates_2 rfl ?_
    refine RD.bipush (pc := 3) (v := 8) dX6_creates_3 (by decide) ?_
    refine RD.icmp_ge (pc := 5) 28 dX6_creates_5 (by decide) (fun c5 => absurd c5 (nI_ge (a := k) (b := 8) (by omega) (by decide))) (fun c5 => ?_)
    refine RD.aload_n (pc := 8) dX6_creates_8 rfl ?_
    refine RD.getR (pc := 9) dX6_creates_9 flX6_36 ok14 rfl rfl ?_
    refine RD.bipush (pc := 12) (v := 8) dX6_creates_12 (by decide) ?_
    refine RD.iload_n (pc := 14) dX6_creates_14 rfl ?_
    refine RD.imul (pc := 15) dX6_creates_15 ?_
    refine RD.eqI (pk_mul 8 s) ?_
    refine RD.iload_n (pc := 16) dX6_creates_16 rfl ?_
    refine RD.iadd (pc := 17) dX6_creates_17 ?_
    refine RD.eqI (nI_add (8 * s) k) ?_
    refine RD.zL (pc := 18) (n := 64) ((8 * s) + k) (v := D (15, 8, 0) ((8 * s) + k)) rfl dX6_creates_18 (ok15 (by decide)) rfl rfl (by omega) (by decide) ?_
    refine RD.if_eq (pc := 19) 28 dX6_creates_19 (by decide) (fun c19 => ?_) (fun c19 => ?_)
    · rw [show mlfr D s (n + 1) k = k by simp [mlfr, c19]] at hx
      exact hx
    · refine RD.iinc (pc := 22) (ls' := [some (rR (14, 0, 0)), some (rI (nI s)), some (rI (nI (k + 1))), none, none]) dX6_creates_22 rfl (nI_1 k) (by decide) rfl ?_
      refine RD.goto (pc := 25) 2 dX6_creates_25 (by decide) ?_
      rw [show mlfr D s (n + 1) k = mlfr D s n (k + 1) by simp [mlfr, c19]] at hx
      exact ih (k + 1) (by omega) hx

set_option maxRecDepth 20000 in
set_option maxHeartbeats 2000000 in
theorem l_creates2 (K : EK) (d : Nat) {s e : Nat} (hs : s < 8) (he : e < 8) (D : DT) (Q : Option AV → DT → Prop) (hx : RD K mX6_creates (d + 1) 101 [some (rR (14, 0, 0)), some (rI (nI s)), some (rI (nI e)), some (rI (nI (8 * s + e))), some (rI (nI 8))] [] (zr D (15, 9, 0) (8 * (8 * s + e)) 8) Q) : ∀ m k, k ≤ 8 → 9 ≤ k + m → RD K mX6_creates (d + 1) 75 [some (rR (14, 0, 0)), some (rI (nI s)), some (rI (nI e)), some (rI (nI (8 * s + e))), some (rI (nI k))] [] (zr D (15, 9, 0) (8 * (8 * s + e)) k) Q := by
  intro m
  induction m with
  | zero => intro k h1 h2; omega
  | succ m ih =>
    intro k hk9 hm
    refine RD.iload (pc := 75) dX6_creates_75 rfl ?_
    refine RD.bipush (pc := 77) (v := 8) dX6_creates_77 (by decide) ?_
    refine RD.icmp_ge (pc := 79) 101 dX6_creates_79 (by decide) (fun c79 => ?_) (fun c79 => ?_)
    · have hk8 : k = 8 := by
        have := (nI_leI (a := 8) (b := k) (by decide) (by omega)).mp c79
        omega
      subst hk8
      exact hx
    · have hk : k < 8 := Nat.lt_of_not_le (fun h => c79 (nI_le h (by omega)))
      refine RD.aload_n (pc := 82) dX6_creates_82 rfl ?_
      refine RD.getR (pc := 83) dX6_creates_83 flX6_39 ok14 rfl rfl ?_
      refine RD.bipush (pc := 86) (v := 8) dX6_creates_86 (by decide) ?_
      refine RD.iload_n (pc := 88) dX6_creates_88 rfl ?_
      refine RD.imul (pc := 89) dX6_creates_89 ?_
      refine RD.eqI (pk_mul 8 (8 * s + e)) ?_
      refine RD.iload (pc := 90) dX6_creates_90 rfl ?_
      refine RD.iadd (pc := 92) dX6_creates_92 ?_
      refine RD.eqI (nI_add (8 * (8 * s + e)) k) ?_
      refine RD.iconst (pc := 93) (v := 0) dX6_creates_93 (by decide) ?_
      refine RD.iast (pc := 94) (n := 512) ((8 * (8 * s + e)) + k) dX6_creates_94 (ok15 (by decide)) rfl rfl (by omega) (by decide) ?_
      refine RD.iinc (pc := 95) (ls' := [some (rR (14, 0, 0)), some (rI (nI s)), some (rI (nI e)), some (rI (nI (8 * s + e))), some (rI (nI (k + 1)))]) dX6_creates_95 rfl (nI_1 k) (by decide) rfl ?_
      refine RD.goto (pc := 98) 75 dX6_creates_98 (by decide) ?_
      rw [zr_s]
      exact ih (k + 1) (by omega) (by omega)

set_option maxRecDepth 20000 in
set_option maxHeartbeats 1000000 in
theorem m_createsN (K : EK) (d : Nat) {s : Nat} (hs : s < 8) (D : DT) (h : mlfr D s 8 0 = 8 ∨ subM D s 136 = false) : CF K mX6_creates (d + 1) [rR (14, 0, 0), rI (nI s)] D (some (rI (-1))) D := by
  refine CF.of [some (rR (14, 0, 0)), some (rI (nI s)), none, none, none] (by decide) (leb rfl) rfl ?_
  refine RD.iconst (pc := 0) (v := 0) dX6_creates_0 (by decide) ?_
  refine RD.istore_n (pc := 1) (ls' := [some (rR (14, 0, 0)), some (rI (nI s)), some (rI 0), none, none]) dX6_creates_1 (by decide) rfl ?_
  refine l_creates1 K d hs D _ 8 0 rfl ?_
  refine RD.iload_n (pc := 28) dX6_creates_28 rfl ?_
  refine RD.bipush (pc := 29) (v := 8) dX6_creates_29 (by decide) ?_
  refine RD.icmp_eq (pc := 31) 45 dX6_creates_31 (by decide) (fun c31 => ?_) (fun c31 => ?_)
  · refine RD.iconst (pc := 45) (v := (-1)) dX6_creates_45 (by decide) ?_
    refine RD.ireturn (pc := 46) dX6_creates_46 rfl rfl ?_
    exact ⟨rfl, rfl⟩
  · refine RD.aload_n (pc := 34) dX6_creates_34 rfl ?_
    refine RD.iload_n (pc := 35) dX6_creates_35 rfl ?_
    refine RD.sipush (pc := 36) (v := 136) dX6_creates_36 (by decide) ?_
    refine RD.cV2 (pc := 39) dX6_creates_39 mlX6_79 rfl ok14 rfl (c_isInLabel K _ (l := s) (m := 136) (by omega) (by omega) D) (leb rfl) ?_
    refine RD.if_ne (pc := 42) 47 dX6_creates_42 (by decide) (fun c42 => ?_) (fun c42 => ?_)
    · exfalso
      rcases h with h | h
      · exact c31 (by rw [h]; rfl)
      · exact c42 (by rw [h]; rfl)
    · refine RD.iconst (pc := 45) (v := (-1)) dX6_creates_45 (by decide) ?_
      refine RD.ireturn (pc := 46) dX6_creates_46 rfl rfl ?_
      exact ⟨rfl, rfl⟩

set_option maxRecDepth 20000 in
set_option maxHeartbeats 1000000 in
theorem m_creates (K : EK) (d : Nat) {s e : Nat} (hs : s < 8) (he : e < 8) (D : DT) (hl : mlfr D s 8 0 = e) (h : subM D s 136 = true) (hB : ∀ u, u < 35072 → isB (D (15, 6, 0) u)) : CF K mX6_creates (d + 1) [rR (14, 0, 0), rI (nI s)] D (some (rI (nI (8 * s + e)))) (mcrF D (8 * s + e)) := by
  refine CF.of [some (rR (14, 0, 0)), some (rI (nI s)), none, none, none] (by decide) (leb rfl) rfl ?_
  refine RD.iconst (pc := 0) (v := 0) dX6_creates_0 (by decide) ?_
  refine RD.istore_n (pc := 1) (ls' := [some (rR (14, 0, 0)), some (rI (nI s)), some (rI 0), none, none]) dX6_creates_1 (by decide) rfl ?_
  refine l_creates1 K d hs D _ 8 0 rfl ?_
  rw [hl]
  refine RD.iload_n (pc := 28) dX6_creates_28 rfl ?_
  refine RD.bipush (pc := 29) (v := 8) dX6_creates_29 (by decide) ?_
  refine RD.icmp_eq (pc := 31) 45 dX6_creates_31 (by decide) (fun c31 => absurd c31 (fun q => absurd ((nI_eq (a := e) (b := 8) (by omega) (by decide)).mp q) (by omega))) (fun c31 => ?_)
  refine RD.aload_n (pc := 34) dX6_creates_34 rfl ?_
  refine RD.iload_n (pc := 35) dX6_creates_35 rfl ?_
  refine RD.sipush (pc := 36) (v := 136) dX6_creates_36 (by decide) ?_
  refine RD.cV2 (pc := 39) dX6_creates_39 mlX6_79 rfl ok14 rfl (c_isInLabel K _ (l := s) (m := 136) (by omega) (by omega) D) (leb rfl) ?_
  refine RD.if_ne (pc := 42) 47 dX6_creates_42 (by decide) (fun c42 => ?_) (fun c42 => absurd c42 (by rw [h]; decide))
  refine RD.bipush (pc := 47) (v := 8) dX6_creates_47 (by decide) ?_
  refine RD.iload_n (pc := 49) dX6_creates_49 rfl ?_
  refine RD.imul (pc := 50) dX6_creates_50 ?_
  refine RD.eqI (pk_mul 8 s) ?_
  refine RD.iload_n (pc := 51) dX6_creates_51 rfl ?_
  refine RD.iadd (pc := 52) dX6_creates_52 ?_
  refine RD.eqI (nI_add (8 * s) e) ?_
  refine RD.istore_n (pc := 53) (ls' := [some (rR (14, 0, 0)), some (rI (nI s)), some (rI (nI e)), some (rI (nI ((8 * s) + e))), none]) dX6_creates_53 (by decide) rfl ?_
  refine RD.aload_n (pc := 54) dX6_creates_54 rfl ?_
  refine RD.getR (pc := 55) dX6_creates_55 flX6_36 ok14 rfl rfl ?_
  refine RD.iload_n (pc := 58) dX6_creates_58 rfl ?_
  refine RD.iconst (pc := 59) (v := 1) dX6_creates_59 (by decide) ?_
  refine RD.zast (pc := 60) (n := 64) ((8 * s) + e) dX6_creates_60 (ok15 (by decide)) rfl rfl (by omega) (by decide) rfl ?_
  refine RD.aload_n (pc := 61) dX6_creates_61 rfl ?_
  refine RD.sipush (pc := 62) (v := 136) dX6_creates_62 (by decide) ?_
  refine RD.bipush (pc := 65) (v := 8) dX6_creates_65 (by decide) ?_
  refine RD.iload_n (pc := 67) dX6_creates_67 rfl ?_
  refine RD.iadd (pc := 68) dX6_creates_68 ?_
  refine RD.eqI (nI_add 8 ((8 * s) + e)) ?_
  refine RD.cV2v (pc := 69) dX6_creates_69 mlX6_71 rfl ok14 rfl (c_copyLabel K _ (l := 136) (m := 8 + (8 * s + e)) (by omega) (by omega) (by omega) (up D (15, 8, 0) (8 * s + e) 1) (fun u hu => by rw [up_n (by simp)]; exact hB _ (by omega))) (leb rfl) ?_
  refine RD.iconst (pc := 72) (v := 0) dX6_creates_72 (by decide) ?_
  refine RD.istore (pc := 73) (ls' := [some (rR (14, 0, 0)), some (rI (nI s)), some (rI (nI e)), some (rI (nI ((8 * s) + e))), some (rI 0)]) dX6_creates_73 (by decide) rfl ?_
  refine RD.eqD (zr_0 _ (15, 9, 0) (8 * (8 * s + e))).symm ?_
  refine l_creates2 K d hs he (lcp (up D (15, 8, 0) (8 * s + e) 1) 136 (8 + (8 * s + e)) 256) _ ?_ 9 0 (by omega) (by omega)
  refine RD.iload_n (pc := 101) dX6_creates_101 rfl ?_
  refine RD.ireturn (pc := 102) dX6_creates_102 rfl rfl ?_
  exact ⟨rfl, rfl⟩
