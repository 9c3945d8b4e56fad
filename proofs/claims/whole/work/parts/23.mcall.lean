
/-- the n places of array a from lo on are nought -/
def zr (D : DT) (a : AD) (lo n : Nat) : DT := fun x => if x = a then (fun k => if lo ≤ k ∧ k < lo + n then 0 else D a k) else D x
theorem zr_0 (D : DT) (a : AD) (lo : Nat) : zr D a lo 0 = D := by
  funext x
  by_cases h : x = a
  · subst h
    funext k
    have : ¬ (lo ≤ k ∧ k < lo + 0) := by omega
    simp only [zr, if_true, this, if_false]
  · simp [zr, h]
theorem zr_o {D : DT} {a x : AD} {lo n : Nat} (h : x ≠ a) : zr D a lo n x = D x := by rw [zr, if_neg h]
theorem zr_s {D : DT} {a : AD} {lo n : Nat} : up (zr D a lo n) a (lo + n) 0 = zr D a lo (n + 1) := by
  funext x k
  rw [up_at]
  by_cases h : x = a
  · subst h
    by_cases h2 : k = lo + n
    · subst h2
      have h3 : lo ≤ lo + n ∧ lo + n < lo + (n + 1) := by omega
      simp only [zr, if_true, h3, and_self]
    · by_cases h3 : lo ≤ k ∧ k < lo + n
      · have h4 : lo ≤ k ∧ k < lo + (n + 1) := by omega
        simp only [zr, if_true, h2, and_false, if_false, h3, h4, and_self]
      · have h4 : ¬ (lo ≤ k ∧ k < lo + (n + 1)) := by omega
        simp only [zr, if_true, h2, and_false, if_false, h3, h4]
  · simp [zr, h]
/-- a new file of the reference -/
def mnew (D : DT) (n : Nat) : DT := zr (zr (up D (15, 8, 0) n 1) (15, 6, 0) (256 * (8 + n)) 256) (15, 9, 0) (8 * n) 8

set_option maxRecDepth 20000 in
set_option maxHeartbeats 2000000 in
theorem l_file1 (K : EK) (d : Nat) {n : Nat} (hn : n < 64) (D : DT) (t : Int32) (Q : Option AV → DT → Prop) (hx : RD K mX6_file (d + 2) 71 [some (rR (14, 0, 0)), some (rI (nI n)), some (rI t), some (rI (nI 256))] [] (zr D (15, 6, 0) (256 * (8 + n)) 256) Q) : ∀ m k, k ≤ 256 → 257 ≤ k + m → RD K mX6_file (d + 2) 42 [some (rR (14, 0, 0)), some (rI (nI n)), some (rI t), some (rI (nI k))] [] (zr D (15, 6, 0) (256 * (8 + n)) k) Q := by
  intro m
  induction m with
  | zero => intro k h1 h2; omega
  | succ m ih =>
    intro k hk9 hm
    refine RD.iload_n (pc := 42) dX6_file_42 rfl ?_
    refine RD.sipush (pc := 43) (v := 256) dX6_file_43 (by decide) ?_
    refine RD.icmp_ge (pc := 46) 71 dX6_file_46 (by decide) (fun c46 => ?_) (fun c46 => ?_)
    · have hk8 : k = 256 := by
        have := (nI_leI (a := 256) (b := k) (by decide) (by omega)).mp c46
        omega
      subst hk8
      exact hx
    · have hk : k < 256 := Nat.lt_of_not_le (fun h => c46 (nI_le h (by omega)))
      refine RD.aload_n (pc := 49) dX6_file_49 rfl ?_
      refine RD.getR (pc := 50) dX6_file_50 flX6_29 ok14 rfl rfl ?_
      refine RD.sipush (pc := 53) (v := 256) dX6_file_53 (by decide) ?_
      refine RD.bipush (pc := 56) (v := 8) dX6_file_56 (by decide) ?_
      refine RD.iload_n (pc := 58) dX6_file_58 rfl ?_
      refine RD.iadd (pc := 59) dX6_file_59 ?_
      refine RD.eqI (nI_add 8 n) ?_
      refine RD.imul (pc := 60) dX6_file_60 ?_
      refine RD.eqI (pk_mul 256 (8 + n)) ?_
      refine RD.iload_n (pc := 61) dX6_file_61 rfl ?_
      refine RD.iadd (pc := 62) dX6_file_62 ?_
      refine RD.eqI (nI_add (256 * (8 + n)) k) ?_
      refine RD.iconst (pc := 63) (v := 0) dX6_file_63 (by decide) ?_
      refine RD.zast (pc := 64) (n := 35072) ((256 * (8 + n)) + k) dX6_file_64 (ok15 (by decide)) rfl rfl (by omega) (by decide) rfl ?_
      refine RD.iinc (pc := 65) (ls' := [some (rR (14, 0, 0)), some (rI (nI n)), some (rI t), some (rI (nI (k + 1)))]) dX6_file_65 rfl (nI_1 k) (by decide) rfl ?_
      refine RD.goto (pc := 68) 42 dX6_file_68 (by decide) ?_
      rw [zr_s]
      exact ih (k + 1) (by omega) (by omega)

set_option maxRecDepth 20000 in
set_option maxHeartbeats 2000000 in
theorem l_file2 (K : EK) (d : Nat) {n : Nat} (hn : n < 64) (D : DT) (t : Int32) (Q : Option AV → DT → Prop) (hx : RD K mX6_file (d + 2) 97 [some (rR (14, 0, 0)), some (rI (nI n)), some (rI t), some (rI (nI 8))] [] (zr D (15, 9, 0) (8 * n) 8) Q) : ∀ m k, k ≤ 8 → 9 ≤ k + m → RD K mX6_file (d + 2) 73 [some (rR (14, 0, 0)), some (rI (nI n)), some (rI t), some (rI (nI k))] [] (zr D (15, 9, 0) (8 * n) k) Q := by
  intro m
  induction m with
  | zero => intro k h1 h2; omega
  | succ m ih =>
    intro k hk9 hm
    refine RD.iload_n (pc := 73) dX6_file_73 rfl ?_
    refine RD.bipush (pc := 74) (v := 8) dX6_file_74 (by decide) ?_
    refine RD.icmp_ge (pc := 76) 97 dX6_file_76 (by decide) (fun c76 => ?_) (fun c76 => ?_)
    · have hk8 : k = 8 := by
        have := (nI_leI (a := 8) (b := k) (by decide) (by omega)).mp c76
        omega
      subst hk8
      exact hx
    · have hk : k < 8 := Nat.lt_of_not_le (fun h => c76 (nI_le h (by omega)))
      refine RD.aload_n (pc := 79) dX6_file_79 rfl ?_
      refine RD.getR (pc := 80) dX6_file_80 flX6_39 ok14 rfl rfl ?_
      refine RD.bipush (pc := 83) (v := 8) dX6_file_83 (by decide) ?_
      refine RD.iload_n (pc := 85) dX6_file_85 rfl ?_
      refine RD.imul (pc := 86) dX6_file_86 ?_
      refine RD.eqI (pk_mul 8 n) ?_
      refine RD.iload_n (pc := 87) dX6_file_87 rfl ?_
      refine RD.iadd (pc := 88) dX6_file_88 ?_
      refine RD.eqI (nI_add (8 * n) k) ?_
      refine RD.iconst (pc := 89) (v := 0) dX6_file_89 (by decide) ?_
      refine RD.iast (pc := 90) (n := 512) ((8 * n) + k) dX6_file_90 (ok15 (by decide)) rfl rfl (by omega) (by decide) ?_
      refine RD.iinc (pc := 91) (ls' := [some (rR (14, 0, 0)), some (rI (nI n)), some (rI t), some (rI (nI (k + 1)))]) dX6_file_91 rfl (nI_1 k) (by decide) rfl ?_
      refine RD.goto (pc := 94) 73 dX6_file_94 (by decide) ?_
      rw [zr_s]
      exact ih (k + 1) (by omega) (by omega)

set_option maxRecDepth 20000 in
set_option maxHeartbeats 1000000 in
theorem m_fileN (K : EK) (d : Nat) (D : DT) (k t : Int32) (h : ¬ (inR k 64 = true ∧ (t < 0 ∨ mthB D t = true))) : CF K mX6_file (d + 2) [rR (14, 0, 0), rI k, rI t] D (some (rI (-1))) D := by
  refine CF.of [some (rR (14, 0, 0)), some (rI k), some (rI t), none] (by decide) (leb rfl) rfl ?_
  refine RD.iload_n (pc := 0) dX6_file_0 rfl ?_
  refine RD.iconst (pc := 1) (v := 0) dX6_file_1 (by decide) ?_
  refine RD.bipush (pc := 2) (v := 63) dX6_file_2 (by decide) ?_
  refine RD.cS3 (pc := 4) dX6_file_4 mlX6_63 (c_mIsIn K _ D k 63 (by decide)) (leb rfl) ?_
  refine RD.if_eq (pc := 7) 22 dX6_file_7 (by decide) (fun c7 => ?_) (fun c7 => ?_)
  · refine RD.iconst (pc := 22) (v := (-1)) dX6_file_22 (by decide) ?_
    refine RD.ireturn (pc := 23) dX6_file_23 rfl rfl ?_
    exact ⟨rfl, rfl⟩
  · refine RD.iload_n (pc := 10) dX6_file_10 rfl ?_
    refine RD.if_lt (pc := 11) 24 dX6_file_11 (by decide) (fun c11 => ?_) (fun c11 => ?_)
    · exact absurd ⟨bI_1 c7, Or.inl c11⟩ h
    · refine RD.aload_n (pc := 14) dX6_file_14 rfl ?_
      refine RD.iload_n (pc := 15) dX6_file_15 rfl ?_
      refine RD.cV1 (pc := 16) dX6_file_16 mlX6_147 rfl ok14 rfl (c_mIsThere K _ D t) (leb rfl) ?_
      refine RD.if_ne (pc := 19) 24 dX6_file_19 (by decide) (fun c19 => ?_) (fun c19 => ?_)
      · exact absurd ⟨bI_1 c7, Or.inr (bI_1 c19)⟩ h
      · refine RD.iconst (pc := 22) (v := (-1)) dX6_file_22 (by decide) ?_
        refine RD.ireturn (pc := 23) dX6_file_23 rfl rfl ?_
        exact ⟨rfl, rfl⟩

set_option maxRecDepth 20000 in
set_option maxHeartbeats 1000000 in
theorem m_fileNew1 (K : EK) (d : Nat) (D : DT) {n : Nat} (hn : n < 64) (t : Int32) (hi : D (15, 8, 0) n = 0) (ht : t < 0) : CF K mX6_file (d + 2) [rR (14, 0, 0), rI (nI n), rI t] D (some (rI (nI (mnF (mnew D n) (8 + n))))) (mnew D n) := by
  refine CF.of [some (rR (14, 0, 0)), some (rI (nI n)), some (rI t), none] (by decide) (leb rfl) rfl ?_
  refine RD.iload_n (pc := 0) dX6_file_0 rfl ?_
  refine RD.iconst (pc := 1) (v := 0) dX6_file_1 (by decide) ?_
  refine RD.bipush (pc := 2) (v := 63) dX6_file_2 (by decide) ?_
  refine RD.cS3 (pc := 4) dX6_file_4 mlX6_63 (c_mIsIn K _ D (nI n) 63 (by decide)) (leb rfl) ?_
  refine RD.if_eq (pc := 7) 22 dX6_file_7 (by decide) (fun c7 => absurd c7 (bIin (by decide) hn)) (fun c7 => ?_)
  refine RD.iload_n (pc := 10) dX6_file_10 rfl ?_
  refine RD.if_lt (pc := 11) 24 dX6_file_11 (by decide) (fun c11 => ?_) (fun c11 => absurd ht c11)
  refine RD.aload_n (pc := 24) dX6_file_24 rfl ?_
  refine RD.getR (pc := 25) dX6_file_25 flX6_36 ok14 rfl rfl ?_
  refine RD.iload_n (pc := 28) dX6_file_28 rfl ?_
  refine RD.zL (pc := 29) (n := 64) n (v := D (15, 8, 0) n) rfl dX6_file_29 (ok15 (by decide)) rfl rfl hn (by decide) ?_
  refine RD.if_ne (pc := 30) 97 dX6_file_30 (by decide) (fun c30 => absurd hi c30) (fun c30 => ?_)
  refine RD.aload_n (pc := 33) dX6_file_33 rfl ?_
  refine RD.getR (pc := 34) dX6_file_34 flX6_36 ok14 rfl rfl ?_
  refine RD.iload_n (pc := 37) dX6_file_37 rfl ?_
  refine RD.iconst (pc := 38) (v := 1) dX6_file_38 (by decide) ?_
  refine RD.zast (pc := 39) (n := 64) n dX6_file_39 (ok15 (by decide)) rfl rfl hn (by decide) rfl ?_
  refine RD.iconst (pc := 40) (v := 0) dX6_file_40 (by decide) ?_
  refine RD.istore_n (pc := 41) (ls' := [some (rR (14, 0, 0)), some (rI (nI n)), some (rI t), some (rI 0)]) dX6_file_41 (by decide) rfl ?_
  refine RD.eqD (zr_0 (up D (15, 8, 0) n 1) (15, 6, 0) (256 * (8 + n))).symm ?_
  refine l_file1 K d hn (up D (15, 8, 0) n 1) t _ ?_ 257 0 (by omega) (by omega)
  refine RD.iconst (pc := 71) (v := 0) dX6_file_71 (by decide) ?_
  refine RD.istore_n (pc := 72) (ls' := [some (rR (14, 0, 0)), some (rI (nI n)), some (rI t), some (rI 0)]) dX6_file_72 (by decide) rfl ?_
  refine RD.eqD (zr_0 (zr (up D (15, 8, 0) n 1) (15, 6, 0) (256 * (8 + n)) 256) (15, 9, 0) (8 * n)).symm ?_
  refine l_file2 K d hn (zr (up D (15, 8, 0) n 1) (15, 6, 0) (256 * (8 + n)) 256) t _ ?_ 9 0 (by omega) (by omega)
  refine RD.eqD (D' := mnew D n) rfl ?_
  refine RD.iload_n (pc := 97) dX6_file_97 rfl ?_
  refine RD.if_ge (pc := 98) 112 dX6_file_98 (by decide) (fun c98 => absurd c98 (Int32.not_le.mpr ht)) (fun c98 => ?_)
  refine RD.aload_n (pc := 101) dX6_file_101 rfl ?_
  refine RD.bipush (pc := 102) (v := 8) dX6_file_102 (by decide) ?_
  refine RD.iload_n (pc := 104) dX6_file_104 rfl ?_
  refine RD.iadd (pc := 105) dX6_file_105 ?_
  refine RD.eqI (nI_add 8 n) ?_
  refine RD.cV1 (pc := 106) dX6_file_106 mlX6_136 rfl ok14 rfl (c_many K _ (l := (8 + n)) (by omega) (mnew D n)) (leb rfl) ?_
  refine RD.goto (pc := 109) 122 dX6_file_109 (by decide) ?_
  refine RD.ireturn (pc := 122) dX6_file_122 rfl rfl ?_
  exact ⟨rfl, rfl⟩

set_option maxRecDepth 20000 in
set_option maxHeartbeats 1000000 in
theorem m_fileNew2 (K : EK) (d : Nat) (D : DT) {n : Nat} (hn : n < 64) (t : Int32) (hi : D (15, 8, 0) n = 0) (ht : ¬ t < 0) (h : mthB D t = true) {r : Int32} {D2 : DT} (hc : CF K mX6_setTag (d + 1) [rR (14, 0, 0), rI (nI (8 + n)), rI t, rI 1] (mnew D n) (some (rI r)) D2) : CF K mX6_file (d + 2) [rR (14, 0, 0), rI (nI n), rI t] D (some (rI r)) D2 := by
  refine CF.of [some (rR (14, 0, 0)), some (rI (nI n)), some (rI t), none] (by decide) (leb rfl) rfl ?_
  refine RD.iload_n (pc := 0) dX6_file_0 rfl ?_
  refine RD.iconst (pc := 1) (v := 0) dX6_file_1 (by decide) ?_
  refine RD.bipush (pc := 2) (v := 63) dX6_file_2 (by decide) ?_
  refine RD.cS3 (pc := 4) dX6_file_4 mlX6_63 (c_mIsIn K _ D (nI n) 63 (by decide)) (leb rfl) ?_
  refine RD.if_eq (pc := 7) 22 dX6_file_7 (by decide) (fun c7 => absurd c7 (bIin (by decide) hn)) (fun c7 => ?_)
  refine RD.iload_n (pc := 10) dX6_file_10 rfl ?_
  refine RD.if_lt (pc := 11) 24 dX6_file_11 (by decide) (fun c11 => absurd c11 ht) (fun c11 => ?_)
  refine RD.aload_n (pc := 14) dX6_file_14 rfl ?_
  refine RD.iload_n (pc := 15) dX6_file_15 rfl ?_
  refine RD.cV1 (pc := 16) dX6_file_16 mlX6_147 rfl ok14 rfl (c_mIsThere K _ D t) (leb rfl) ?_
  refine RD.if_ne (pc := 19) 24 dX6_file_19 (by decide) (fun c19 => ?_) (fun c19 => absurd c19 (by rw [h]; decide))
  refine RD.aload_n (pc := 24) dX6_file_24 rfl ?_
  refine RD.getR (pc := 25) dX6_file_25 flX6_36 ok14 rfl rfl ?_
  refine RD.iload_n (pc := 28) dX6_file_28 rfl ?_
  refine RD.zL (pc := 29) (n := 64) n (v := D (15, 8, 0) n) rfl dX6_file_29 (ok15 (by decide)) rfl rfl hn (by decide) ?_
  refine RD.if_ne (pc := 30) 97 dX6_file_30 (by decide) (fun c30 => absurd hi c30) (fun c30 => ?_)
  refine RD.aload_n (pc := 33) dX6_file_33 rfl ?_
  refine RD.getR (pc := 34) dX6_file_34 flX6_36 ok14 rfl rfl ?_
  refine RD.iload_n (pc := 37) dX6_file_37 rfl ?_
  refine RD.iconst (pc := 38) (v := 1) dX6_file_38 (by decide) ?_
  refine RD.zast (pc := 39) (n := 64) n dX6_file_39 (ok15 (by decide)) rfl rfl hn (by decide) rfl ?_
  refine RD.iconst (pc := 40) (v := 0) dX6_file_40 (by decide) ?_
  refine RD.istore_n (pc := 41) (ls' := [some (rR (14, 0, 0)), some (rI (nI n)), some (rI t), some (rI 0)]) dX6_file_41 (by decide) rfl ?_
  refine RD.eqD (zr_0 (up D (15, 8, 0) n 1) (15, 6, 0) (256 * (8 + n))).symm ?_
  refine l_file1 K d hn (up D (15, 8, 0) n 1) t _ ?_ 257 0 (by omega) (by omega)
  refine RD.iconst (pc := 71) (v := 0) dX6_file_71 (by decide) ?_
  refine RD.istore_n (pc := 72) (ls' := [some (rR (14, 0, 0)), some (rI (nI n)), some (rI t), some (rI 0)]) dX6_file_72 (by decide) rfl ?_
  refine RD.eqD (zr_0 (zr (up D (15, 8, 0) n 1) (15, 6, 0) (256 * (8 + n)) 256) (15, 9, 0) (8 * n)).symm ?_
  refine l_file2 K d hn (zr (up D (15, 8, 0) n 1) (15, 6, 0) (256 * (8 + n)) 256) t _ ?_ 9 0 (by omega) (by omega)
  refine RD.eqD (D' := mnew D n) rfl ?_
  refine RD.iload_n (pc := 97) dX6_file_97 rfl ?_
  refine RD.if_ge (pc := 98) 112 dX6_file_98 (by decide) (fun c98 => ?_) (fun c98 => absurd (i32_nlt ht) c98)
  refine RD.aload_n (pc := 112) dX6_file_112 rfl ?_
  refine RD.bipush (pc := 113) (v := 8) dX6_file_113 (by decide) ?_
  refine RD.iload_n (pc := 115) dX6_file_115 rfl ?_
  refine RD.iadd (pc := 116) dX6_file_116 ?_
  refine RD.eqI (nI_add 8 n) ?_
  refine RD.iload_n (pc := 117) dX6_file_117 rfl ?_
  refine RD.iconst (pc := 118) (v := 1) dX6_file_118 (by decide) ?_
  refine RD.cV3 (pc := 119) dX6_file_119 mlX6_150 rfl ok14 rfl hc (leb rfl) ?_
  refine RD.ireturn (pc := 122) dX6_file_122 rfl rfl ?_
  exact ⟨rfl, rfl⟩

set_option maxRecDepth 20000 in
set_option maxHeartbeats 1000000 in
theorem m_fileOld1 (K : EK) (d : Nat) (D : DT) {n : Nat} (hn : n < 64) (t : Int32) (hi : ¬ D (15, 8, 0) n = 0) (ht : t < 0) : CF K mX6_file (d + 2) [rR (14, 0, 0), rI (nI n), rI t] D (some (rI (nI (mnF (D) (8 + n))))) D := by
  refine CF.of [some (rR (14, 0, 0)), some (rI (nI n)), some (rI t), none] (by decide) (leb rfl) rfl ?_
  refine RD.iload_n (pc := 0) dX6_file_0 rfl ?_
  refine RD.iconst (pc := 1) (v := 0) dX6_file_1 (by decide) ?_
  refine RD.bipush (pc := 2) (v := 63) dX6_file_2 (by decide) ?_
  refine RD.cS3 (pc := 4) dX6_file_4 mlX6_63 (c_mIsIn K _ D (nI n) 63 (by decide)) (leb rfl) ?_
  refine RD.if_eq (pc := 7) 22 dX6_file_7 (by decide) (fun c7 => absurd c7 (bIin (by decide) hn)) (fun c7 => ?_)
  refine RD.iload_n (pc := 10) dX6_file_10 rfl ?_
  refine RD.if_lt (pc := 11) 24 dX6_file_11 (by decide) (fun c11 => ?_) (fun c11 => absurd ht c11)
  refine RD.aload_n (pc := 24) dX6_file_24 rfl ?_
  refine RD.getR (pc := 25) dX6_file_25 flX6_36 ok14 rfl rfl ?_
  refine RD.iload_n (pc := 28) dX6_file_28 rfl ?_
  refine RD.zL (pc := 29) (n := 64) n (v := D (15, 8, 0) n) rfl dX6_file_29 (ok15 (by decide)) rfl rfl hn (by decide) ?_
  refine RD.if_ne (pc := 30) 97 dX6_file_30 (by decide) (fun c30 => ?_) (fun c30 => absurd c30 hi)
  refine RD.iload_n (pc := 97) dX6_file_97 rfl ?_
  refine RD.if_ge (pc := 98) 112 dX6_file_98 (by decide) (fun c98 => absurd c98 (Int32.not_le.mpr ht)) (fun c98 => ?_)
  refine RD.aload_n (pc := 101) dX6_file_101 rfl ?_
  refine RD.bipush (pc := 102) (v := 8) dX6_file_102 (by decide) ?_
  refine RD.iload_n (pc := 104) dX6_file_104 rfl ?_
  refine RD.iadd (pc := 105) dX6_file_105 ?_
  refine RD.eqI (nI_add 8 n) ?_
  refine RD.cV1 (pc := 106) dX6_file_106 mlX6_136 rfl ok14 rfl (c_many K _ (l := (8 + n)) (by omega) D) (leb rfl) ?_
  refine RD.goto (pc := 109) 122 dX6_file_109 (by decide) ?_
  refine RD.ireturn (pc := 122) dX6_file_122 rfl rfl ?_
  exact ⟨rfl, rfl⟩

set_option maxRecDepth 20000 in
set_option maxHeartbeats 1000000 in
theorem m_fileOld2 (K : EK) (d : Nat) (D : DT) {n : Nat} (hn : n < 64) (t : Int32) (hi : ¬ D (15, 8, 0) n = 0) (ht : ¬ t < 0) (h : mthB D t = true) {r : Int32} {D2 : DT} (hc : CF K mX6_setTag (d + 1) [rR (14, 0, 0), rI (nI (8 + n)), rI t, rI 1] (D) (some (rI r)) D2) : CF K mX6_file (d + 2) [rR (14, 0, 0), rI (nI n), rI t] D (some (rI r)) D2 := by
  refine CF.of [some (rR (14, 0, 0)), some (rI (nI n)), some (rI t), none] (by decide) (leb rfl) rfl ?_
  refine RD.iload_n (pc := 0) dX6_file_0 rfl ?_
  refine RD.iconst (pc := 1) (v := 0) dX6_file_1 (by decide) ?_
  refine RD.bipush (pc := 2) (v := 63) dX6_file_2 (by decide) ?_
  refine RD.cS3 (pc := 4) dX6_file_4 mlX6_63 (c_mIsIn K _ D (nI n) 63 (by decide)) (leb rfl) ?_
  refine RD.if_eq (pc := 7) 22 dX6_file_7 (by decide) (fun c7 => absurd c7 (bIin (by decide) hn)) (fun c7 => ?_)
  refine RD.iload_n (pc := 10) dX6_file_10 rfl ?_
  refine RD.if_lt (pc := 11) 24 dX6_file_11 (by decide) (fun c11 => absurd c11 ht) (fun c11 => ?_)
  refine RD.aload_n (pc := 14) dX6_file_14 rfl ?_
  refine RD.iload_n (pc := 15) dX6_file_15 rfl ?_
  refine RD.cV1 (pc := 16) dX6_file_16 mlX6_147 rfl ok14 rfl (c_mIsThere K _ D t) (leb rfl) ?_
  refine RD.if_ne (pc := 19) 24 dX6_file_19 (by decide) (fun c19 => ?_) (fun c19 => absurd c19 (by rw [h]; decide))
  refine RD.aload_n (pc := 24) dX6_file_24 rfl ?_
  refine RD.getR (pc := 25) dX6_file_25 flX6_36 ok14 rfl rfl ?_
  refine RD.iload_n (pc := 28) dX6_file_28 rfl ?_
  refine RD.zL (pc := 29) (n := 64) n (v := D (15, 8, 0) n) rfl dX6_file_29 (ok15 (by decide)) rfl rfl hn (by decide) ?_
  refine RD.if_ne (pc := 30) 97 dX6_file_30 (by decide) (fun c30 => ?_) (fun c30 => absurd c30 hi)
  refine RD.iload_n (pc := 97) dX6_file_97 rfl ?_
  refine RD.if_ge (pc := 98) 112 dX6_file_98 (by decide) (fun c98 => ?_) (fun c98 => absurd (i32_nlt ht) c98)
  refine RD.aload_n (pc := 112) dX6_file_112 rfl ?_
  refine RD.bipush (pc := 113) (v := 8) dX6_file_113 (by decide) ?_
  refine RD.iload_n (pc := 115) dX6_file_115 rfl ?_
  refine RD.iadd (pc := 116) dX6_file_116 ?_
  refine RD.eqI (nI_add 8 n) ?_
  refine RD.iload_n (pc := 117) dX6_file_117 rfl ?_
  refine RD.iconst (pc := 118) (v := 1) dX6_file_118 (by decide) ?_
  refine RD.cV3 (pc := 119) dX6_file_119 mlX6_150 rfl ok14 rfl hc (leb rfl) ?_
  refine RD.ireturn (pc := 122) dX6_file_122 rfl rfl ?_
  exact ⟨rfl, rfl⟩


def mntF (D : DT) (s c : Nat) : DT := up (up (up D (15, 5, 0) s (nI (c + 1))) (15, 7, 0) (256 * (8 * 0 + s) + (32 * s + c)) 1) (15, 7, 0) (256 * (8 * 1 + s) + (32 * s + c)) 1

set_option maxRecDepth 20000 in
set_option maxHeartbeats 1000000 in
theorem m_newTag (K : EK) (d : Nat) {s c : Nat} (hs : s < 8) (D : DT) (hc : D (15, 5, 0) s = nI c) (hc32 : c < 32) (h2 : cnF D (8 * 0 + s) < 40) (h3 : cnF D (8 * 1 + s) < 40) : CF K mX6_newTag (d + 2) [rR (14, 0, 0), rI (nI s)] D (some (rI (nI (32 * s + c)))) (mntF D s c) := by
  refine CF.of [some (rR (14, 0, 0)), some (rI (nI s)), none] (by decide) (leb rfl) rfl ?_
  refine RD.aload_n (pc := 0) dX6_newTag_0 rfl ?_
  refine RD.getR (pc := 1) dX6_newTag_1 flX6_25 ok14 rfl rfl ?_
  refine RD.iload_n (pc := 4) dX6_newTag_4 rfl ?_
  refine RD.iL (pc := 5) (n := 8) s (v := nI c) hc dX6_newTag_5 (ok15 (by decide)) rfl rfl hs (by decide) ?_
  refine RD.bipush (pc := 6) (v := 32) dX6_newTag_6 (by decide) ?_
  refine RD.icmp_eq (pc := 8) 33 dX6_newTag_8 (by decide) (fun c8 => absurd c8 (fun e => absurd ((nI_eq (a := c) (b := 32) (by omega) (by decide)).mp e) (by omega))) (fun c8 => ?_)
  refine RD.aload_n (pc := 11) dX6_newTag_11 rfl ?_
  refine RD.iload_n (pc := 12) dX6_newTag_12 rfl ?_
  refine RD.iconst (pc := 13) (v := 0) dX6_newTag_13 (by decide) ?_
  refine RD.cV2 (pc := 14) dX6_newTag_14 mlX6_139 rfl ok14 rfl (c_capab K _ (s := s) (q := 0) (by omega) (by omega) D) (leb rfl) ?_
  refine RD.bipush (pc := 17) (v := 40) dX6_newTag_17 (by decide) ?_
  refine RD.icmp_ge (pc := 19) 33 dX6_newTag_19 (by decide) (fun c19 => absurd c19 (nI_ge (b := 40) h2 (by decide))) (fun c19 => ?_)
  refine RD.aload_n (pc := 22) dX6_newTag_22 rfl ?_
  refine RD.iload_n (pc := 23) dX6_newTag_23 rfl ?_
  refine RD.iconst (pc := 24) (v := 1) dX6_newTag_24 (by decide) ?_
  refine RD.cV2 (pc := 25) dX6_newTag_25 mlX6_139 rfl ok14 rfl (c_capab K _ (s := s) (q := 1) (by omega) (by omega) D) (leb rfl) ?_
  refine RD.bipush (pc := 28) (v := 40) dX6_newTag_28 (by decide) ?_
  refine RD.icmp_lt (pc := 30) 35 dX6_newTag_30 (by decide) (fun c30 => ?_) (fun c30 => absurd (nI_lt (b := 40) h3 (by decide)) c30)
  refine RD.bipush (pc := 35) (v := 32) dX6_newTag_35 (by decide) ?_
  refine RD.iload_n (pc := 37) dX6_newTag_37 rfl ?_
  refine RD.imul (pc := 38) dX6_newTag_38 ?_
  refine RD.eqI (pk_mul 32 s) ?_
  refine RD.aload_n (pc := 39) dX6_newTag_39 rfl ?_
  refine RD.getR (pc := 40) dX6_newTag_40 flX6_25 ok14 rfl rfl ?_
  refine RD.iload_n (pc := 43) dX6_newTag_43 rfl ?_
  refine RD.iL (pc := 44) (n := 8) s (v := nI c) hc dX6_newTag_44 (ok15 (by decide)) rfl rfl hs (by decide) ?_
  refine RD.iadd (pc := 45) dX6_newTag_45 ?_
  refine RD.eqI (nI_add (32 * s) c) ?_
  refine RD.istore_n (pc := 46) (ls' := [some (rR (14, 0, 0)), some (rI (nI s)), some (rI (nI ((32 * s) + c)))]) dX6_newTag_46 (by decide) rfl ?_
  refine RD.aload_n (pc := 47) dX6_newTag_47 rfl ?_
  refine RD.getR (pc := 48) dX6_newTag_48 flX6_25 ok14 rfl rfl ?_
  refine RD.iload_n (pc := 51) dX6_newTag_51 rfl ?_
  refine RD.dup2 (pc := 52) dX6_newTag_52 ?_
  refine RD.iL (pc := 53) (n := 8) s (v := nI c) hc dX6_newTag_53 (ok15 (by decide)) rfl rfl hs (by decide) ?_
  refine RD.iconst (pc := 54) (v := 1) dX6_newTag_54 (by decide) ?_
  refine RD.iadd (pc := 55) dX6_newTag_55 ?_
  refine RD.eqI (nI_add c 1) ?_
  refine RD.iast (pc := 56) (n := 8) s dX6_newTag_56 (ok15 (by decide)) rfl rfl hs (by decide) ?_
  refine RD.aload_n (pc := 57) dX6_newTag_57 rfl ?_
  refine RD.getR (pc := 58) dX6_newTag_58 flX6_33 ok14 rfl rfl ?_
  refine RD.aload_n (pc := 61) dX6_newTag_61 rfl ?_
  refine RD.iload_n (pc := 62) dX6_newTag_62 rfl ?_
  refine RD.iconst (pc := 63) (v := 0) dX6_newTag_63 (by decide) ?_
  refine RD.iload_n (pc := 64) dX6_newTag_64 rfl ?_
  refine RD.cV3 (pc := 65) dX6_newTag_65 mlX6_67 rfl ok14 rfl (c_at K _ (up D (15, 5, 0) s (nI (c + 1))) s 0 ((32 * s) + c)) (leb rfl) ?_
  refine RD.iconst (pc := 68) (v := 1) dX6_newTag_68 (by decide) ?_
  refine RD.zast (pc := 69) (n := 4096) (256 * (8 * 0 + s) + ((32 * s) + c)) dX6_newTag_69 (ok15 (by decide)) rfl rfl (by omega) (by decide) rfl ?_
  refine RD.aload_n (pc := 70) dX6_newTag_70 rfl ?_
  refine RD.getR (pc := 71) dX6_newTag_71 flX6_33 ok14 rfl rfl ?_
  refine RD.aload_n (pc := 74) dX6_newTag_74 rfl ?_
  refine RD.iload_n (pc := 75) dX6_newTag_75 rfl ?_
  refine RD.iconst (pc := 76) (v := 1) dX6_newTag_76 (by decide) ?_
  refine RD.iload_n (pc := 77) dX6_newTag_77 rfl ?_
  refine RD.cV3 (pc := 78) dX6_newTag_78 mlX6_67 rfl ok14 rfl (c_at K _ (up (up D (15, 5, 0) s (nI (c + 1))) (15, 7, 0) (256 * (8 * 0 + s) + ((32 * s) + c)) 1) s 1 ((32 * s) + c)) (leb rfl) ?_
  refine RD.iconst (pc := 81) (v := 1) dX6_newTag_81 (by decide) ?_
  refine RD.zast (pc := 82) (n := 4096) (256 * (8 * 1 + s) + ((32 * s) + c)) dX6_newTag_82 (ok15 (by decide)) rfl rfl (by omega) (by decide) rfl ?_
  refine RD.iload_n (pc := 83) dX6_newTag_83 rfl ?_
  refine RD.ireturn (pc := 84) dX6_newTag_84 rfl rfl ?_
  exact ⟨rfl, rfl⟩

set_option maxRecDepth 20000 in
set_option maxHeartbeats 1000000 in
theorem m_newTagN (K : EK) (d : Nat) {s c : Nat} (hs : s < 8) (D : DT) (hc : D (15, 5, 0) s = nI c) (hc33 : c < 33) (h : c = 32 ∨ 40 ≤ cnF D (8 * 0 + s) ∨ 40 ≤ cnF D (8 * 1 + s)) : CF K mX6_newTag (d + 2) [rR (14, 0, 0), rI (nI s)] D (some (rI (-1))) D := by
  refine CF.of [some (rR (14, 0, 0)), some (rI (nI s)), none] (by decide) (leb rfl) rfl ?_
  refine RD.aload_n (pc := 0) dX6_newTag_0 rfl ?_
  refine RD.getR (pc := 1) dX6_newTag_1 flX6_25 ok14 rfl rfl ?_
  refine RD.iload_n (pc := 4) dX6_newTag_4 rfl ?_
  refine RD.iL (pc := 5) (n := 8) s (v := nI c) hc dX6_newTag_5 (ok15 (by decide)) rfl rfl hs (by decide) ?_
  refine RD.bipush (pc := 6) (v := 32) dX6_newTag_6 (by decide) ?_
  refine RD.icmp_eq (pc := 8) 33 dX6_newTag_8 (by decide) (fun c8 => ?_) (fun c8 => ?_)
  · refine RD.iconst (pc := 33) (v := (-1)) dX6_newTag_33 (by decide) ?_
    refine RD.ireturn (pc := 34) dX6_newTag_34 rfl rfl ?_
    exact ⟨rfl, rfl⟩
  · refine RD.aload_n (pc := 11) dX6_newTag_11 rfl ?_
    refine RD.iload_n (pc := 12) dX6_newTag_12 rfl ?_
    refine RD.iconst (pc := 13) (v := 0) dX6_newTag_13 (by decide) ?_
    refine RD.cV2 (pc := 14) dX6_newTag_14 mlX6_139 rfl ok14 rfl (c_capab K _ (s := s) (q := 0) (by omega) (by omega) D) (leb rfl) ?_
    refine RD.bipush (pc := 17) (v := 40) dX6_newTag_17 (by decide) ?_
    refine RD.icmp_ge (pc := 19) 33 dX6_newTag_19 (by decide) (fun c19 => ?_) (fun c19 => ?_)
    · refine RD.iconst (pc := 33) (v := (-1)) dX6_newTag_33 (by decide) ?_
      refine RD.ireturn (pc := 34) dX6_newTag_34 rfl rfl ?_
      exact ⟨rfl, rfl⟩
    · refine RD.aload_n (pc := 22) dX6_newTag_22 rfl ?_
      refine RD.iload_n (pc := 23) dX6_newTag_23 rfl ?_
      refine RD.iconst (pc := 24) (v := 1) dX6_newTag_24 (by decide) ?_
      refine RD.cV2 (pc := 25) dX6_newTag_25 mlX6_139 rfl ok14 rfl (c_capab K _ (s := s) (q := 1) (by omega) (by omega) D) (leb rfl) ?_
      refine RD.bipush (pc := 28) (v := 40) dX6_newTag_28 (by decide) ?_
      refine RD.icmp_lt (pc := 30) 35 dX6_newTag_30 (by decide) (fun c30 => ?_) (fun c30 => ?_)
      · exfalso
        rcases h with h | h | h
        · exact c8 (by rw [h]; rfl)
        · exact c19 (nI_le (a := 40) h (Nat.lt_of_le_of_lt (cnF_lt D _) (by decide)))
        · exact absurd c30 (nI_nlt (b := 40) h (Nat.lt_of_le_of_lt (cnF_lt D _) (by decide)))
      · refine RD.iconst (pc := 33) (v := (-1)) dX6_newTag_33 (by decide) ?_
        refine RD.ireturn (pc := 34) dX6_newTag_34 rfl rfl ?_
        exact ⟨rfl, rfl⟩

set_option maxRecDepth 20000 in
set_option maxHeartbeats 1000000 in
theorem m_dropsN (K : EK) (d : Nat) {s q : Nat} (hs : s < 8) (hq : q < 2) (D : DT) (t : Int32) (h : inR t 256 = false) : CF K mX6_drops (d + 1) [rR (14, 0, 0), rI (nI s), rI t, rI (nI q)] D (some (rI 0)) D := by
  refine CF.of [some (rR (14, 0, 0)), some (rI (nI s)), some (rI t), some (rI (nI q))] (by decide) (leb rfl) rfl ?_
  refine RD.iload_n (pc := 0) dX6_drops_0 rfl ?_
  refine RD.iconst (pc := 1) (v := 0) dX6_drops_1 (by decide) ?_
  refine RD.sipush (pc := 2) (v := 255) dX6_drops_2 (by decide) ?_
  refine RD.cS3 (pc := 5) dX6_drops_5 mlX6_63 (c_mIsIn K _ D t 255 (by decide)) (leb rfl) ?_
  refine RD.if_eq (pc := 8) 26 dX6_drops_8 (by decide) (fun c8 => ?_) (fun c8 => absurd (bIout h) c8)
  refine RD.iconst (pc := 26) (v := 0) dX6_drops_26 (by decide) ?_
  refine RD.ireturn (pc := 27) dX6_drops_27 rfl rfl ?_
  exact ⟨rfl, rfl⟩

set_option maxRecDepth 20000 in
set_option maxHeartbeats 1000000 in
theorem m_drops0 (K : EK) (d : Nat) {s q t : Nat} (hs : s < 8) (hq : q < 2) (ht : t < 256) (D : DT) (h : cpB D (8 * q + s) t = false) : CF K mX6_drops (d + 1) [rR (14, 0, 0), rI (nI s), rI (nI t), rI (nI q)] D (some (rI 0)) D := by
  refine CF.of [some (rR (14, 0, 0)), some (rI (nI s)), some (rI (nI t)), some (rI (nI q))] (by decide) (leb rfl) rfl ?_
  refine RD.iload_n (pc := 0) dX6_drops_0 rfl ?_
  refine RD.iconst (pc := 1) (v := 0) dX6_drops_1 (by decide) ?_
  refine RD.sipush (pc := 2) (v := 255) dX6_drops_2 (by decide) ?_
  refine RD.cS3 (pc := 5) dX6_drops_5 mlX6_63 (c_mIsIn K _ D (nI t) 255 (by decide)) (leb rfl) ?_
  refine RD.if_eq (pc := 8) 26 dX6_drops_8 (by decide) (fun c8 => absurd c8 (bIin (by decide) ht)) (fun c8 => ?_)
  refine RD.aload_n (pc := 11) dX6_drops_11 rfl ?_
  refine RD.getR (pc := 12) dX6_drops_12 flX6_33 ok14 rfl rfl ?_
  refine RD.aload_n (pc := 15) dX6_drops_15 rfl ?_
  refine RD.iload_n (pc := 16) dX6_drops_16 rfl ?_
  refine RD.iload_n (pc := 17) dX6_drops_17 rfl ?_
  refine RD.iload_n (pc := 18) dX6_drops_18 rfl ?_
  refine RD.cV3 (pc := 19) dX6_drops_19 mlX6_67 rfl ok14 rfl (c_at K _ D s q t) (leb rfl) ?_
  refine RD.zL (pc := 22) (n := 4096) (256 * (8 * q + s) + t) (v := D (15, 7, 0) (256 * (8 * q + s) + t)) rfl dX6_drops_22 (ok15 (by decide)) rfl rfl (by omega) (by decide) ?_
  refine RD.if_ne (pc := 23) 28 dX6_drops_23 (by decide) (fun c23 => absurd (by simpa [cpB] using h) c23) (fun c23 => ?_)
  refine RD.iconst (pc := 26) (v := 0) dX6_drops_26 (by decide) ?_
  refine RD.ireturn (pc := 27) dX6_drops_27 rfl rfl ?_
  exact ⟨rfl, rfl⟩

set_option maxRecDepth 20000 in
set_option maxHeartbeats 1000000 in
theorem m_drops1 (K : EK) (d : Nat) {s q t : Nat} (hs : s < 8) (hq : q < 2) (ht : t < 256) (D : DT) (h : cpB D (8 * q + s) t = true) : CF K mX6_drops (d + 1) [rR (14, 0, 0), rI (nI s), rI (nI t), rI (nI q)] D (some (rI 1)) (up D (15, 7, 0) (256 * (8 * q + s) + t) 0) := by
  refine CF.of [some (rR (14, 0, 0)), some (rI (nI s)), some (rI (nI t)), some (rI (nI q))] (by decide) (leb rfl) rfl ?_
  refine RD.iload_n (pc := 0) dX6_drops_0 rfl ?_
  refine RD.iconst (pc := 1) (v := 0) dX6_drops_1 (by decide) ?_
  refine RD.sipush (pc := 2) (v := 255) dX6_drops_2 (by decide) ?_
  refine RD.cS3 (pc := 5) dX6_drops_5 mlX6_63 (c_mIsIn K _ D (nI t) 255 (by decide)) (leb rfl) ?_
  refine RD.if_eq (pc := 8) 26 dX6_drops_8 (by decide) (fun c8 => absurd c8 (bIin (by decide) ht)) (fun c8 => ?_)
  refine RD.aload_n (pc := 11) dX6_drops_11 rfl ?_
  refine RD.getR (pc := 12) dX6_drops_12 flX6_33 ok14 rfl rfl ?_
  refine RD.aload_n (pc := 15) dX6_drops_15 rfl ?_
  refine RD.iload_n (pc := 16) dX6_drops_16 rfl ?_
  refine RD.iload_n (pc := 17) dX6_drops_17 rfl ?_
  refine RD.iload_n (pc := 18) dX6_drops_18 rfl ?_
  refine RD.cV3 (pc := 19) dX6_drops_19 mlX6_67 rfl ok14 rfl (c_at K _ D s q t) (leb rfl) ?_
  refine RD.zL (pc := 22) (n := 4096) (256 * (8 * q + s) + t) (v := D (15, 7, 0) (256 * (8 * q + s) + t)) rfl dX6_drops_22 (ok15 (by decide)) rfl rfl (by omega) (by decide) ?_
  refine RD.if_ne (pc := 23) 28 dX6_drops_23 (by decide) (fun c23 => ?_) (fun c23 => absurd c23 (by simpa [cpB] using h))
  refine RD.aload_n (pc := 28) dX6_drops_28 rfl ?_
  refine RD.getR (pc := 29) dX6_drops_29 flX6_33 ok14 rfl rfl ?_
  refine RD.aload_n (pc := 32) dX6_drops_32 rfl ?_
  refine RD.iload_n (pc := 33) dX6_drops_33 rfl ?_
  refine RD.iload_n (pc := 34) dX6_drops_34 rfl ?_
  refine RD.iload_n (pc := 35) dX6_drops_35 rfl ?_
  refine RD.cV3 (pc := 36) dX6_drops_36 mlX6_67 rfl ok14 rfl (c_at K _ D s q t) (leb rfl) ?_
  refine RD.iconst (pc := 39) (v := 0) dX6_drops_39 (by decide) ?_
  refine RD.zast (pc := 40) (n := 4096) (256 * (8 * q + s) + t) dX6_drops_40 (ok15 (by decide)) rfl rfl (by omega) (by decide) rfl ?_
  refine RD.iconst (pc := 41) (v := 1) dX6_drops_41 (by decide) ?_
  refine RD.ireturn (pc := 42) dX6_drops_42 rfl rfl ?_
  exact ⟨rfl, rfl⟩

set_option maxRecDepth 20000 in
set_option maxHeartbeats 1000000 in
theorem m_passesN (K : EK) (d : Nat) {s q : Nat} (hs : s < 8) (hq : q < 2) (D : DT) (to t : Int32) (h : inR t 256 = false) : CF K mX6_passes (d + 3) [rR (14, 0, 0), rI (nI s), rI to, rI t, rI (nI q)] D (some (rI 0)) D := by
  refine CF.of [some (rR (14, 0, 0)), some (rI (nI s)), some (rI to), some (rI t), some (rI (nI q))] (by decide) (leb rfl) rfl ?_
  refine RD.iload_n (pc := 0) dX6_passes_0 rfl ?_
  refine RD.iconst (pc := 1) (v := 0) dX6_passes_1 (by decide) ?_
  refine RD.sipush (pc := 2) (v := 255) dX6_passes_2 (by decide) ?_
  refine RD.cS3 (pc := 5) dX6_passes_5 mlX6_63 (c_mIsIn K _ D t 255 (by decide)) (leb rfl) ?_
  refine RD.if_eq (pc := 8) 27 dX6_passes_8 (by decide) (fun c8 => ?_) (fun c8 => absurd (bIout h) c8)
  refine RD.iconst (pc := 27) (v := 0) dX6_passes_27 (by decide) ?_
  refine RD.ireturn (pc := 28) dX6_passes_28 rfl rfl ?_
  exact ⟨rfl, rfl⟩

set_option maxRecDepth 20000 in
set_option maxHeartbeats 1000000 in
theorem m_passes0 (K : EK) (d : Nat) {s q t : Nat} (hs : s < 8) (hq : q < 2) (ht : t < 256) (D : DT) (to : Int32) (h : cpB D (8 * q + s) t = false) : CF K mX6_passes (d + 3) [rR (14, 0, 0), rI (nI s), rI to, rI (nI t), rI (nI q)] D (some (rI 0)) D := by
  refine CF.of [some (rR (14, 0, 0)), some (rI (nI s)), some (rI to), some (rI (nI t)), some (rI (nI q))] (by decide) (leb rfl) rfl ?_
  refine RD.iload_n (pc := 0) dX6_passes_0 rfl ?_
  refine RD.iconst (pc := 1) (v := 0) dX6_passes_1 (by decide) ?_
  refine RD.sipush (pc := 2) (v := 255) dX6_passes_2 (by decide) ?_
  refine RD.cS3 (pc := 5) dX6_passes_5 mlX6_63 (c_mIsIn K _ D (nI t) 255 (by decide)) (leb rfl) ?_
  refine RD.if_eq (pc := 8) 27 dX6_passes_8 (by decide) (fun c8 => absurd c8 (bIin (by decide) ht)) (fun c8 => ?_)
  refine RD.aload_n (pc := 11) dX6_passes_11 rfl ?_
  refine RD.getR (pc := 12) dX6_passes_12 flX6_33 ok14 rfl rfl ?_
  refine RD.aload_n (pc := 15) dX6_passes_15 rfl ?_
  refine RD.iload_n (pc := 16) dX6_passes_16 rfl ?_
  refine RD.iload (pc := 17) dX6_passes_17 rfl ?_
  refine RD.iload_n (pc := 19) dX6_passes_19 rfl ?_
  refine RD.cV3 (pc := 20) dX6_passes_20 mlX6_67 rfl ok14 rfl (c_at K _ D s q t) (leb rfl) ?_
  refine RD.zL (pc := 23) (n := 4096) (256 * (8 * q + s) + t) (v := D (15, 7, 0) (256 * (8 * q + s) + t)) rfl dX6_passes_23 (ok15 (by decide)) rfl rfl (by omega) (by decide) ?_
  refine RD.if_ne (pc := 24) 29 dX6_passes_24 (by decide) (fun c24 => absurd (by simpa [cpB] using h) c24) (fun c24 => ?_)
  refine RD.iconst (pc := 27) (v := 0) dX6_passes_27 (by decide) ?_
  refine RD.ireturn (pc := 28) dX6_passes_28 rfl rfl ?_
  exact ⟨rfl, rfl⟩

set_option maxRecDepth 20000 in
set_option maxHeartbeats 1000000 in
theorem m_passes1 (K : EK) (d : Nat) {s q t : Nat} (hs : s < 8) (hq : q < 2) (ht : t < 256) (D : DT) (to : Int32) (h : cpB D (8 * q + s) t = true) {D2 : DT} (hc : CF K mX6_sends (d + 2) [rR (14, 0, 0), rI (nI s), rI to, rI (nI t), rI (nI q)] D none D2) : CF K mX6_passes (d + 3) [rR (14, 0, 0), rI (nI s), rI to, rI (nI t), rI (nI q)] D (some (rI 1)) D2 := by
  refine CF.of [some (rR (14, 0, 0)), some (rI (nI s)), some (rI to), some (rI (nI t)), some (rI (nI q))] (by decide) (leb rfl) rfl ?_
  refine RD.iload_n (pc := 0) dX6_passes_0 rfl ?_
  refine RD.iconst (pc := 1) (v := 0) dX6_passes_1 (by decide) ?_
  refine RD.sipush (pc := 2) (v := 255) dX6_passes_2 (by decide) ?_
  refine RD.cS3 (pc := 5) dX6_passes_5 mlX6_63 (c_mIsIn K _ D (nI t) 255 (by decide)) (leb rfl) ?_
  refine RD.if_eq (pc := 8) 27 dX6_passes_8 (by decide) (fun c8 => absurd c8 (bIin (by decide) ht)) (fun c8 => ?_)
  refine RD.aload_n (pc := 11) dX6_passes_11 rfl ?_
  refine RD.getR (pc := 12) dX6_passes_12 flX6_33 ok14 rfl rfl ?_
  refine RD.aload_n (pc := 15) dX6_passes_15 rfl ?_
  refine RD.iload_n (pc := 16) dX6_passes_16 rfl ?_
  refine RD.iload (pc := 17) dX6_passes_17 rfl ?_
  refine RD.iload_n (pc := 19) dX6_passes_19 rfl ?_
  refine RD.cV3 (pc := 20) dX6_passes_20 mlX6_67 rfl ok14 rfl (c_at K _ D s q t) (leb rfl) ?_
  refine RD.zL (pc := 23) (n := 4096) (256 * (8 * q + s) + t) (v := D (15, 7, 0) (256 * (8 * q + s) + t)) rfl dX6_passes_23 (ok15 (by decide)) rfl rfl (by omega) (by decide) ?_
  refine RD.if_ne (pc := 24) 29 dX6_passes_24 (by decide) (fun c24 => ?_) (fun c24 => absurd c24 (by simpa [cpB] using h))
  refine RD.aload_n (pc := 29) dX6_passes_29 rfl ?_
  refine RD.iload_n (pc := 30) dX6_passes_30 rfl ?_
  refine RD.iload_n (pc := 31) dX6_passes_31 rfl ?_
  refine RD.iload_n (pc := 32) dX6_passes_32 rfl ?_
  refine RD.iload (pc := 33) dX6_passes_33 rfl ?_
  refine RD.cV4v (pc := 35) dX6_passes_35 mlX6_114 rfl ok14 rfl hc (leb rfl) ?_
  refine RD.iconst (pc := 38) (v := 1) dX6_passes_38 (by decide) ?_
  refine RD.ireturn (pc := 39) dX6_passes_39 rfl rfl ?_
  exact ⟨rfl, rfl⟩

set_option maxRecDepth 20000 in
set_option maxHeartbeats 1000000 in
theorem m_readsN (K : EK) (d : Nat) {s : Nat} (hs : s < 8) (D : DT) (k i : Int32) (h : mfcB D k i = false) : CF K mX6_reads (d + 1) [rR (14, 0, 0), rI (nI s), rI k, rI i] D (some (rI 0)) D := by
  refine CF.of [some (rR (14, 0, 0)), some (rI (nI s)), some (rI k), some (rI i)] (by decide) (leb rfl) rfl ?_
  refine RD.iload_n (pc := 0) dX6_reads_0 rfl ?_
  refine RD.iconst (pc := 1) (v := 0) dX6_reads_1 (by decide) ?_
  refine RD.bipush (pc := 2) (v := 63) dX6_reads_2 (by decide) ?_
  refine RD.cS3 (pc := 4) dX6_reads_4 mlX6_63 (c_mIsIn K _ D k 63 (by decide)) (leb rfl) ?_
  refine RD.if_eq (pc := 7) 41 dX6_reads_7 (by decide) (fun c7 => ?_) (fun c7 => ?_)
  · refine RD.iconst (pc := 41) (v := 0) dX6_reads_41 (by decide) ?_
    refine RD.ireturn (pc := 42) dX6_reads_42 rfl rfl ?_
    exact ⟨rfl, rfl⟩
  · obtain ⟨n, hn, rfl⟩ := inR_t (N := 64) (by decide) (bI_1 c7)
    refine RD.aload_n (pc := 10) dX6_reads_10 rfl ?_
    refine RD.getR (pc := 11) dX6_reads_11 flX6_36 ok14 rfl rfl ?_
    refine RD.iload_n (pc := 14) dX6_reads_14 rfl ?_
    refine RD.zL (pc := 15) (n := 64) n (v := D (15, 8, 0) n) rfl dX6_reads_15 (ok15 (by decide)) rfl rfl hn (by decide) ?_
    refine RD.if_eq (pc := 16) 41 dX6_reads_16 (by decide) (fun c16 => ?_) (fun c16 => ?_)
    · refine RD.iconst (pc := 41) (v := 0) dX6_reads_41 (by decide) ?_
      refine RD.ireturn (pc := 42) dX6_reads_42 rfl rfl ?_
      exact ⟨rfl, rfl⟩
    · refine RD.iload_n (pc := 19) dX6_reads_19 rfl ?_
      refine RD.iconst (pc := 20) (v := 0) dX6_reads_20 (by decide) ?_
      refine RD.bipush (pc := 21) (v := 7) dX6_reads_21 (by decide) ?_
      refine RD.cS3 (pc := 23) dX6_reads_23 mlX6_63 (c_mIsIn K _ D i 7 (by decide)) (leb rfl) ?_
      refine RD.if_eq (pc := 26) 41 dX6_reads_26 (by decide) (fun c26 => ?_) (fun c26 => ?_)
      · refine RD.iconst (pc := 41) (v := 0) dX6_reads_41 (by decide) ?_
        refine RD.ireturn (pc := 42) dX6_reads_42 rfl rfl ?_
        exact ⟨rfl, rfl⟩
      · exfalso
        revert h
        simp [mfcB, bI_1 c26, inR_nI (n := n) (N := 64) (by decide) hn, nI_clamp (n := n) (by omega), mthr, c16]

set_option maxRecDepth 20000 in
set_option maxHeartbeats 1000000 in
theorem m_reads0 (K : EK) (d : Nat) {s n e : Nat} (hs : s < 8) (hn : n < 64) (he : e < 8) (D : DT) (h : mthr D n = true) (h2 : subM D (8 + n) s = false) : CF K mX6_reads (d + 1) [rR (14, 0, 0), rI (nI s), rI (nI n), rI (nI e)] D (some (rI 0)) D := by
  refine CF.of [some (rR (14, 0, 0)), some (rI (nI s)), some (rI (nI n)), some (rI (nI e))] (by decide) (leb rfl) rfl ?_
  refine RD.iload_n (pc := 0) dX6_reads_0 rfl ?_
  refine RD.iconst (pc := 1) (v := 0) dX6_reads_1 (by decide) ?_
  refine RD.bipush (pc := 2) (v := 63) dX6_reads_2 (by decide) ?_
  refine RD.cS3 (pc := 4) dX6_reads_4 mlX6_63 (c_mIsIn K _ D (nI n) 63 (by decide)) (leb rfl) ?_
  refine RD.if_eq (pc := 7) 41 dX6_reads_7 (by decide) (fun c7 => absurd c7 (bIin (by decide) hn)) (fun c7 => ?_)
  refine RD.aload_n (pc := 10) dX6_reads_10 rfl ?_
  refine RD.getR (pc := 11) dX6_reads_11 flX6_36 ok14 rfl rfl ?_
  refine RD.iload_n (pc := 14) dX6_reads_14 rfl ?_
  refine RD.zL (pc := 15) (n := 64) n (v := D (15, 8, 0) n) rfl dX6_reads_15 (ok15 (by decide)) rfl rfl hn (by decide) ?_
  refine RD.if_eq (pc := 16) 41 dX6_reads_16 (by decide) (fun c16 => absurd c16 (by simpa [mthr] using h)) (fun c16 => ?_)
  refine RD.iload_n (pc := 19) dX6_reads_19 rfl ?_
  refine RD.iconst (pc := 20) (v := 0) dX6_reads_20 (by decide) ?_
  refine RD.bipush (pc := 21) (v := 7) dX6_reads_21 (by decide) ?_
  refine RD.cS3 (pc := 23) dX6_reads_23 mlX6_63 (c_mIsIn K _ D (nI e) 7 (by decide)) (leb rfl) ?_
  refine RD.if_eq (pc := 26) 41 dX6_reads_26 (by decide) (fun c26 => absurd c26 (bIin (by decide) he)) (fun c26 => ?_)
  refine RD.aload_n (pc := 29) dX6_reads_29 rfl ?_
  refine RD.bipush (pc := 30) (v := 8) dX6_reads_30 (by decide) ?_
  refine RD.iload_n (pc := 32) dX6_reads_32 rfl ?_
  refine RD.iadd (pc := 33) dX6_reads_33 ?_
  refine RD.eqI (nI_add 8 n) ?_
  refine RD.iload_n (pc := 34) dX6_reads_34 rfl ?_
  refine RD.cV2 (pc := 35) dX6_reads_35 mlX6_79 rfl ok14 rfl (c_isInLabel K _ (l := (8 + n)) (m := s) (by omega) (by omega) D) (leb rfl) ?_
  refine RD.if_ne (pc := 38) 43 dX6_reads_38 (by decide) (fun c38 => absurd (by rw [h2]; rfl) c38) (fun c38 => ?_)
  refine RD.iconst (pc := 41) (v := 0) dX6_reads_41 (by decide) ?_
  refine RD.ireturn (pc := 42) dX6_reads_42 rfl rfl ?_
  exact ⟨rfl, rfl⟩

set_option maxRecDepth 20000 in
set_option maxHeartbeats 1000000 in
theorem m_reads1 (K : EK) (d : Nat) {s n e : Nat} (hs : s < 8) (hn : n < 64) (he : e < 8) (D : DT) (h : mthr D n = true) (h2 : subM D (8 + n) s = true) : CF K mX6_reads (d + 1) [rR (14, 0, 0), rI (nI s), rI (nI n), rI (nI e)] D (some (rI 1)) (up D (15, 0, 0) (128 * s + 120) (D (15, 9, 0) (8 * n + e))) := by
  refine CF.of [some (rR (14, 0, 0)), some (rI (nI s)), some (rI (nI n)), some (rI (nI e))] (by decide) (leb rfl) rfl ?_
  refine RD.iload_n (pc := 0) dX6_reads_0 rfl ?_
  refine RD.iconst (pc := 1) (v := 0) dX6_reads_1 (by decide) ?_
  refine RD.bipush (pc := 2) (v := 63) dX6_reads_2 (by decide) ?_
  refine RD.cS3 (pc := 4) dX6_reads_4 mlX6_63 (c_mIsIn K _ D (nI n) 63 (by decide)) (leb rfl) ?_
  refine RD.if_eq (pc := 7) 41 dX6_reads_7 (by decide) (fun c7 => absurd c7 (bIin (by decide) hn)) (fun c7 => ?_)
  refine RD.aload_n (pc := 10) dX6_reads_10 rfl ?_
  refine RD.getR (pc := 11) dX6_reads_11 flX6_36 ok14 rfl rfl ?_
  refine RD.iload_n (pc := 14) dX6_reads_14 rfl ?_
  refine RD.zL (pc := 15) (n := 64) n (v := D (15, 8, 0) n) rfl dX6_reads_15 (ok15 (by decide)) rfl rfl hn (by decide) ?_
  refine RD.if_eq (pc := 16) 41 dX6_reads_16 (by decide) (fun c16 => absurd c16 (by simpa [mthr] using h)) (fun c16 => ?_)
  refine RD.iload_n (pc := 19) dX6_reads_19 rfl ?_
  refine RD.iconst (pc := 20) (v := 0) dX6_reads_20 (by decide) ?_
  refine RD.bipush (pc := 21) (v := 7) dX6_reads_21 (by decide) ?_
  refine RD.cS3 (pc := 23) dX6_reads_23 mlX6_63 (c_mIsIn K _ D (nI e) 7 (by decide)) (leb rfl) ?_
  refine RD.if_eq (pc := 26) 41 dX6_reads_26 (by decide) (fun c26 => absurd c26 (bIin (by decide) he)) (fun c26 => ?_)
  refine RD.aload_n (pc := 29) dX6_reads_29 rfl ?_
  refine RD.bipush (pc := 30) (v := 8) dX6_reads_30 (by decide) ?_
  refine RD.iload_n (pc := 32) dX6_reads_32 rfl ?_
  refine RD.iadd (pc := 33) dX6_reads_33 ?_
  refine RD.eqI (nI_add 8 n) ?_
  refine RD.iload_n (pc := 34) dX6_reads_34 rfl ?_
  refine RD.cV2 (pc := 35) dX6_reads_35 mlX6_79 rfl ok14 rfl (c_isInLabel K _ (l := (8 + n)) (m := s) (by omega) (by omega) D) (leb rfl) ?_
  refine RD.if_ne (pc := 38) 43 dX6_reads_38 (by decide) (fun c38 => ?_) (fun c38 => absurd c38 (by rw [h2]; decide))
  refine RD.aload_n (pc := 43) dX6_reads_43 rfl ?_
  refine RD.getR (pc := 44) dX6_reads_44 flX6_9 ok14 rfl rfl ?_
  refine RD.sipush (pc := 47) (v := 128) dX6_reads_47 (by decide) ?_
  refine RD.iload_n (pc := 50) dX6_reads_50 rfl ?_
  refine RD.imul (pc := 51) dX6_reads_51 ?_
  refine RD.eqI (pk_mul 128 s) ?_
  refine RD.bipush (pc := 52) (v := 120) dX6_reads_52 (by decide) ?_
  refine RD.iadd (pc := 54) dX6_reads_54 ?_
  refine RD.eqI (nI_add (128 * s) 120) ?_
  refine RD.aload_n (pc := 55) dX6_reads_55 rfl ?_
  refine RD.getR (pc := 56) dX6_reads_56 flX6_39 ok14 rfl rfl ?_
  refine RD.bipush (pc := 59) (v := 8) dX6_reads_59 (by decide) ?_
  refine RD.iload_n (pc := 61) dX6_reads_61 rfl ?_
  refine RD.imul (pc := 62) dX6_reads_62 ?_
  refine RD.eqI (pk_mul 8 n) ?_
  refine RD.iload_n (pc := 63) dX6_reads_63 rfl ?_
  refine RD.iadd (pc := 64) dX6_reads_64 ?_
  refine RD.eqI (nI_add (8 * n) e) ?_
  refine RD.iL (pc := 65) (n := 512) ((8 * n) + e) (v := D (15, 9, 0) ((8 * n) + e)) rfl dX6_reads_65 (ok15 (by decide)) rfl rfl (by omega) (by decide) ?_
  refine RD.iast (pc := 66) (n := 1024) ((128 * s) + 120) dX6_reads_66 (ok15 (by decide)) rfl rfl (by omega) (by decide) ?_
  refine RD.iconst (pc := 67) (v := 1) dX6_reads_67 (by decide) ?_
  refine RD.ireturn (pc := 68) dX6_reads_68 rfl rfl ?_
  exact ⟨rfl, rfl⟩


def mputF (D : DT) (s w : Nat) (v : Int32) : DT := up (up (up D (15, 15, 0) (64 * s + w) v) (15, 16, 0) (64 * s + w) (nI (mnF (up D (15, 15, 0) (64 * s + w) v) s))) (15, 14, 0) s (nI (w + 1))

set_option maxRecDepth 20000 in
set_option maxHeartbeats 1000000 in
theorem m_putsN (K : EK) (d : Nat) {s w : Nat} (hs : s < 8) (D : DT) (v : Int32) (hw : D (15, 14, 0) s = nI w) (hw64 : w = 64) : CF K mX6_puts (d + 1) [rR (14, 0, 0), rI (nI s), rI v] D (none) D := by
  refine CF.of [some (rR (14, 0, 0)), some (rI (nI s)), some (rI v)] (by decide) (leb rfl) rfl ?_
  refine RD.aload_n (pc := 0) dX6_puts_0 rfl ?_
  refine RD.getR (pc := 1) dX6_puts_1 flX6_54 ok14 rfl rfl ?_
  refine RD.iload_n (pc := 4) dX6_puts_4 rfl ?_
  refine RD.iL (pc := 5) (n := 8) s (v := nI w) hw dX6_puts_5 (ok15 (by decide)) rfl rfl hs (by decide) ?_
  refine RD.bipush (pc := 6) (v := 64) dX6_puts_6 (by decide) ?_
  refine RD.icmp_ne (pc := 8) 12 dX6_puts_8 (by decide) (fun c8 => absurd (by rw [hw64]; rfl) c8) (fun c8 => ?_)
  refine RD.ret (pc := 11) ⟨rfl, dX6_puts_11⟩ ?_
  exact ⟨rfl, rfl⟩

set_option maxRecDepth 20000 in
set_option maxHeartbeats 1000000 in
theorem m_puts (K : EK) (d : Nat) {s w : Nat} (hs : s < 8) (D : DT) (v : Int32) (hw : D (15, 14, 0) s = nI w) (hw64 : w < 64) : CF K mX6_puts (d + 1) [rR (14, 0, 0), rI (nI s), rI v] D (none) (mputF D s w v) := by
  refine CF.of [some (rR (14, 0, 0)), some (rI (nI s)), some (rI v)] (by decide) (leb rfl) rfl ?_
  refine RD.aload_n (pc := 0) dX6_puts_0 rfl ?_
  refine RD.getR (pc := 1) dX6_puts_1 flX6_54 ok14 rfl rfl ?_
  refine RD.iload_n (pc := 4) dX6_puts_4 rfl ?_
  refine RD.iL (pc := 5) (n := 8) s (v := nI w) hw dX6_puts_5 (ok15 (by decide)) rfl rfl hs (by decide) ?_
  refine RD.bipush (pc := 6) (v := 64) dX6_puts_6 (by decide) ?_
  refine RD.icmp_ne (pc := 8) 12 dX6_puts_8 (by decide) (fun c8 => ?_) (fun c8 => absurd c8 (fun e => absurd ((nI_eq (a := w) (b := 64) (by omega) (by decide)).mp e) (by omega)))
  refine RD.aload_n (pc := 12) dX6_puts_12 rfl ?_
  refine RD.getR (pc := 13) dX6_puts_13 flX6_57 ok14 rfl rfl ?_
  refine RD.bipush (pc := 16) (v := 64) dX6_puts_16 (by decide) ?_
  refine RD.iload_n (pc := 18) dX6_puts_18 rfl ?_
  refine RD.imul (pc := 19) dX6_puts_19 ?_
  refine RD.eqI (pk_mul 64 s) ?_
  refine RD.aload_n (pc := 20) dX6_puts_20 rfl ?_
  refine RD.getR (pc := 21) dX6_puts_21 flX6_54 ok14 rfl rfl ?_
  refine RD.iload_n (pc := 24) dX6_puts_24 rfl ?_
  refine RD.iL (pc := 25) (n := 8) s (v := nI w) hw dX6_puts_25 (ok15 (by decide)) rfl rfl hs (by decide) ?_
  refine RD.iadd (pc := 26) dX6_puts_26 ?_
  refine RD.eqI (nI_add (64 * s) w) ?_
  refine RD.iload_n (pc := 27) dX6_puts_27 rfl ?_
  refine RD.iast (pc := 28) (n := 512) ((64 * s) + w) dX6_puts_28 (ok15 (by decide)) rfl rfl (by omega) (by decide) ?_
  refine RD.aload_n (pc := 29) dX6_puts_29 rfl ?_
  refine RD.getR (pc := 30) dX6_puts_30 flX6_60 ok14 rfl rfl ?_
  refine RD.bipush (pc := 33) (v := 64) dX6_puts_33 (by decide) ?_
  refine RD.iload_n (pc := 35) dX6_puts_35 rfl ?_
  refine RD.imul (pc := 36) dX6_puts_36 ?_
  refine RD.eqI (pk_mul 64 s) ?_
  refine RD.aload_n (pc := 37) dX6_puts_37 rfl ?_
  refine RD.getR (pc := 38) dX6_puts_38 flX6_54 ok14 rfl rfl ?_
  refine RD.iload_n (pc := 41) dX6_puts_41 rfl ?_
  refine RD.iL (pc := 42) (n := 8) s (v := nI w) (up_N (by simp) hw) dX6_puts_42 (ok15 (by decide)) rfl rfl hs (by decide) ?_
  refine RD.iadd (pc := 43) dX6_puts_43 ?_
  refine RD.eqI (nI_add (64 * s) w) ?_
  refine RD.aload_n (pc := 44) dX6_puts_44 rfl ?_
  refine RD.iload_n (pc := 45) dX6_puts_45 rfl ?_
  refine RD.cV1 (pc := 46) dX6_puts_46 mlX6_136 rfl ok14 rfl (c_many K _ (l := s) (by omega) (up D (15, 15, 0) ((64 * s) + w) v)) (leb rfl) ?_
  refine RD.iast (pc := 49) (n := 512) ((64 * s) + w) dX6_puts_49 (ok15 (by decide)) rfl rfl (by omega) (by decide) ?_
  refine RD.aload_n (pc := 50) dX6_puts_50 rfl ?_
  refine RD.getR (pc := 51) dX6_puts_51 flX6_54 ok14 rfl rfl ?_
  refine RD.iload_n (pc := 54) dX6_puts_54 rfl ?_
  refine RD.dup2 (pc := 55) dX6_puts_55 ?_
  refine RD.iL (pc := 56) (n := 8) s (v := nI w) (up_N (by simp) (up_N (by simp) hw)) dX6_puts_56 (ok15 (by decide)) rfl rfl hs (by decide) ?_
  refine RD.iconst (pc := 57) (v := 1) dX6_puts_57 (by decide) ?_
  refine RD.iadd (pc := 58) dX6_puts_58 ?_
  refine RD.eqI (nI_add w 1) ?_
  refine RD.iast (pc := 59) (n := 8) s dX6_puts_59 (ok15 (by decide)) rfl rfl hs (by decide) ?_
  refine RD.ret (pc := 60) ⟨rfl, dX6_puts_60⟩ ?_
  exact ⟨rfl, rfl⟩
