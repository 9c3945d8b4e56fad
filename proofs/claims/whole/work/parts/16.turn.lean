def wcB (x : Int32) : Bool := decide (x = 1) || (decide (x = 2) || (decide (4 ≤ x) && decide (x ≤ 12)))

set_option maxRecDepth 20000 in
set_option maxHeartbeats 1000000 in
theorem c_wantsCell (K : EK) (d : Nat) (D : DT) (x : Int32) : CF K mX5_wantsCell d [rI x] D (some (rI (bI (wcB x)))) D := by
  refine CF.of [some (rI x)] (by decide) (leb rfl) rfl ?_
  refine RD.iload_n (pc := 0) dX5_wantsCell_0 rfl ?_
  refine RD.iconst (pc := 1) (v := 1) dX5_wantsCell_1 (by decide) ?_
  refine RD.icmp_eq (pc := 2) 21 dX5_wantsCell_2 (by decide) (fun c2 => ?_) (fun c2 => ?_)
  · refine RD.iconst (pc := 21) (v := 1) dX5_wantsCell_21 (by decide) ?_
    refine RD.goto (pc := 22) 26 dX5_wantsCell_22 (by decide) ?_
    refine RD.ireturn (pc := 26) dX5_wantsCell_26 rfl rfl ?_
    exact ⟨by simp [wcB, c2, bI], rfl⟩
  · refine RD.iload_n (pc := 5) dX5_wantsCell_5 rfl ?_
    refine RD.iconst (pc := 6) (v := 2) dX5_wantsCell_6 (by decide) ?_
    refine RD.icmp_eq (pc := 7) 21 dX5_wantsCell_7 (by decide) (fun c7 => ?_) (fun c7 => ?_)
    · refine RD.iconst (pc := 21) (v := 1) dX5_wantsCell_21 (by decide) ?_
      refine RD.goto (pc := 22) 26 dX5_wantsCell_22 (by decide) ?_
      refine RD.ireturn (pc := 26) dX5_wantsCell_26 rfl rfl ?_
      exact ⟨by simp [wcB, c7, bI], rfl⟩
    · refine RD.iload_n (pc := 10) dX5_wantsCell_10 rfl ?_
      refine RD.iconst (pc := 11) (v := 4) dX5_wantsCell_11 (by decide) ?_
      refine RD.icmp_lt (pc := 12) 25 dX5_wantsCell_12 (by decide) (fun c12 => ?_) (fun c12 => ?_)
      · refine RD.iconst (pc := 25) (v := 0) dX5_wantsCell_25 (by decide) ?_
        refine RD.ireturn (pc := 26) dX5_wantsCell_26 rfl rfl ?_
        exact ⟨by simp [wcB, c2, c7, Int32.not_le.mpr c12, bI], rfl⟩
      · refine RD.iload_n (pc := 15) dX5_wantsCell_15 rfl ?_
        refine RD.bipush (pc := 16) (v := 12) dX5_wantsCell_16 (by decide) ?_
        refine RD.icmp_gt (pc := 18) 25 dX5_wantsCell_18 (by decide) (fun c18 => ?_) (fun c18 => ?_)
        · refine RD.iconst (pc := 25) (v := 0) dX5_wantsCell_25 (by decide) ?_
          refine RD.ireturn (pc := 26) dX5_wantsCell_26 rfl rfl ?_
          exact ⟨by simp [wcB, c2, c7, Int32.not_le.mpr c18, bI], rfl⟩
        · refine RD.iconst (pc := 21) (v := 1) dX5_wantsCell_21 (by decide) ?_
          refine RD.goto (pc := 22) 26 dX5_wantsCell_22 (by decide) ?_
          refine RD.ireturn (pc := 26) dX5_wantsCell_26 rfl rfl ?_
          exact ⟨by simp [wcB, i32_nlt c12, i32_nlt c18, bI], rfl⟩

set_option maxRecDepth 20000 in
set_option maxHeartbeats 1000000 in
theorem c_plain0 (K : EK) (d : Nat) {i : Nat} (hi : i < 8) (D : DT) (x : Int32) : CF K mX5_plainInstruction (d + 1) [rR (2, i, 0), rI 0, rI x] D (none) (up D (2, i, 0) 4 2) := by
  refine CF.of [some (rR (2, i, 0)), some (rI 0), some (rI x)] (by decide) (leb rfl) rfl ?_
  refine RD.iload_n (pc := 0) dX5_plainInstruction_0 rfl ?_
  refine RD.lookup (pc := 1) (off := 51) 52 dX5_plainInstruction_1 (by decide) rfl (by decide) ?_
  refine RD.aload_n (pc := 52) dX5_plainInstruction_52 rfl ?_
  refine RD.iconst (pc := 53) (v := 2) dX5_plainInstruction_53 (by decide) ?_
  refine RD.putf (pc := 54) dX5_plainInstruction_54 fpX5_37 (ok2 hi) rfl rfl rfl rfl ?_
  refine RD.goto (pc := 57) 111 dX5_plainInstruction_57 (by decide) ?_
  refine RD.ret (pc := 111) ⟨rfl, dX5_plainInstruction_111⟩ ?_
  exact ⟨rfl, rfl⟩

set_option maxRecDepth 20000 in
set_option maxHeartbeats 1000000 in
theorem c_plain3 (K : EK) (d : Nat) {i : Nat} (hi : i < 8) (D : DT) (x : Int32) : CF K mX5_plainInstruction (d + 1) [rR (2, i, 0), rI 3, rI x] D (none) (up D (2, i, 0) 2 x) := by
  refine CF.of [some (rR (2, i, 0)), some (rI 3), some (rI x)] (by decide) (leb rfl) rfl ?_
  refine RD.iload_n (pc := 0) dX5_plainInstruction_0 rfl ?_
  refine RD.lookup (pc := 1) (off := 59) 60 dX5_plainInstruction_1 (by decide) rfl (by decide) ?_
  refine RD.aload_n (pc := 60) dX5_plainInstruction_60 rfl ?_
  refine RD.iload_n (pc := 61) dX5_plainInstruction_61 rfl ?_
  refine RD.putf (pc := 62) dX5_plainInstruction_62 fpX5_108 (ok2 hi) rfl rfl rfl rfl ?_
  refine RD.goto (pc := 65) 111 dX5_plainInstruction_65 (by decide) ?_
  refine RD.ret (pc := 111) ⟨rfl, dX5_plainInstruction_111⟩ ?_
  exact ⟨rfl, rfl⟩

set_option maxRecDepth 20000 in
set_option maxHeartbeats 1000000 in
theorem c_plain13 (K : EK) (d : Nat) {i : Nat} (hi : i < 8) (D : DT) (x : Int32) : CF K mX5_plainInstruction (d + 1) [rR (2, i, 0), rI 13, rI x] D (none) (up D (2, i, 0) 3 x) := by
  refine CF.of [some (rR (2, i, 0)), some (rI 13), some (rI x)] (by decide) (leb rfl) rfl ?_
  refine RD.iload_n (pc := 0) dX5_plainInstruction_0 rfl ?_
  refine RD.lookup (pc := 1) (off := 67) 68 dX5_plainInstruction_1 (by decide) rfl (by decide) ?_
  refine RD.aload_n (pc := 68) dX5_plainInstruction_68 rfl ?_
  refine RD.iload_n (pc := 69) dX5_plainInstruction_69 rfl ?_
  refine RD.putf (pc := 70) dX5_plainInstruction_70 fpX5_111 (ok2 hi) rfl rfl rfl rfl ?_
  refine RD.goto (pc := 73) 111 dX5_plainInstruction_73 (by decide) ?_
  refine RD.ret (pc := 111) ⟨rfl, dX5_plainInstruction_111⟩ ?_
  exact ⟨rfl, rfl⟩

set_option maxRecDepth 20000 in
set_option maxHeartbeats 1000000 in
theorem c_plain14 (K : EK) (d : Nat) {i : Nat} (hi : i < 8) (D : DT) (x : Int32) : CF K mX5_plainInstruction (d + 1) [rR (2, i, 0), rI 14, rI x] D (none) (if D (2, i, 0) 2 = 0 then up D (2, i, 0) 3 x else D) := by
  refine CF.of [some (rR (2, i, 0)), some (rI 14), some (rI x)] (by decide) (leb rfl) rfl ?_
  refine RD.iload_n (pc := 0) dX5_plainInstruction_0 rfl ?_
  refine RD.lookup (pc := 1) (off := 75) 76 dX5_plainInstruction_1 (by decide) rfl (by decide) ?_
  refine RD.aload_n (pc := 76) dX5_plainInstruction_76 rfl ?_
  refine RD.gI (pc := 77) (v := D (2, i, 0) 2) rfl dX5_plainInstruction_77 flX5_108 (ok2 hi) rfl rfl ?_
  refine RD.if_ne (pc := 80) 111 dX5_plainInstruction_80 (by decide) (fun c80 => ?_) (fun c80 => ?_)
  · refine RD.ret (pc := 111) ⟨rfl, dX5_plainInstruction_111⟩ ?_
    exact ⟨rfl, by simp [c80]⟩
  · refine RD.aload_n (pc := 83) dX5_plainInstruction_83 rfl ?_
    refine RD.iload_n (pc := 84) dX5_plainInstruction_84 rfl ?_
    refine RD.putf (pc := 85) dX5_plainInstruction_85 fpX5_111 (ok2 hi) rfl rfl rfl rfl ?_
    refine RD.goto (pc := 88) 111 dX5_plainInstruction_88 (by decide) ?_
    refine RD.ret (pc := 111) ⟨rfl, dX5_plainInstruction_111⟩ ?_
    exact ⟨rfl, by simp [c80]⟩

set_option maxRecDepth 20000 in
set_option maxHeartbeats 1000000 in
theorem c_plain15 (K : EK) (d : Nat) {i : Nat} (hi : i < 8) (D : DT) (x : Int32) : CF K mX5_plainInstruction (d + 1) [rR (2, i, 0), rI 15, rI x] D (none) (if D (2, i, 0) 2 < 0 then up D (2, i, 0) 3 x else D) := by
  refine CF.of [some (rR (2, i, 0)), some (rI 15), some (rI x)] (by decide) (leb rfl) rfl ?_
  refine RD.iload_n (pc := 0) dX5_plainInstruction_0 rfl ?_
  refine RD.lookup (pc := 1) (off := 90) 91 dX5_plainInstruction_1 (by decide) rfl (by decide) ?_
  refine RD.aload_n (pc := 91) dX5_plainInstruction_91 rfl ?_
  refine RD.gI (pc := 92) (v := D (2, i, 0) 2) rfl dX5_plainInstruction_92 flX5_108 (ok2 hi) rfl rfl ?_
  refine RD.if_ge (pc := 95) 111 dX5_plainInstruction_95 (by decide) (fun c95 => ?_) (fun c95 => ?_)
  · refine RD.ret (pc := 111) ⟨rfl, dX5_plainInstruction_111⟩ ?_
    exact ⟨rfl, by simp [Int32.not_lt.mpr c95]⟩
  · refine RD.aload_n (pc := 98) dX5_plainInstruction_98 rfl ?_
    refine RD.iload_n (pc := 99) dX5_plainInstruction_99 rfl ?_
    refine RD.putf (pc := 100) dX5_plainInstruction_100 fpX5_111 (ok2 hi) rfl rfl rfl rfl ?_
    refine RD.goto (pc := 103) 111 dX5_plainInstruction_103 (by decide) ?_
    refine RD.ret (pc := 111) ⟨rfl, dX5_plainInstruction_111⟩ ?_
    exact ⟨rfl, by simp [i32_nle c95]⟩

set_option maxRecDepth 20000 in
set_option maxHeartbeats 1000000 in
theorem c_plainX (K : EK) (d : Nat) {i : Nat} (hi : i < 8) (D : DT) (op x : Int32) (h0 : ¬ op = 0) (h3 : ¬ op = 3) (h13 : ¬ op = 13) (h14 : ¬ op = 14) (h15 : ¬ op = 15) : CF K mX5_plainInstruction (d + 1) [rR (2, i, 0), rI op, rI x] D (none) (stopF D i 1) := by
  refine CF.of [some (rR (2, i, 0)), some (rI op), some (rI x)] (by decide) (leb rfl) rfl ?_
  refine RD.iload_n (pc := 0) dX5_plainInstruction_0 rfl ?_
  refine RD.lookup (pc := 1) (off := 105) 106 dX5_plainInstruction_1 (by decide) (by rw [lv_osw h0 (by decide), lv_osw h3 (by decide), lv_osw h13 (by decide), lv_osw h14 (by decide), lv_osw h15 (by decide)]; rfl) (by decide) ?_
  refine RD.aload_n (pc := 106) dX5_plainInstruction_106 rfl ?_
  refine RD.iconst (pc := 107) (v := 1) dX5_plainInstruction_107 (by decide) ?_
  refine RD.cV1v (pc := 108) dX5_plainInstruction_108 mlX5_151 rfl (ok2 hi) rfl (c_stopBy K _ hi D 1) (leb rfl) ?_
  refine RD.ret (pc := 111) ⟨rfl, dX5_plainInstruction_111⟩ ?_
  exact ⟨rfl, rfl⟩

set_option maxRecDepth 20000 in
set_option maxHeartbeats 1000000 in
theorem c_indirectN (K : EK) (d : Nat) {i : Nat} (hi : i < 8) (D : DT) (op m : Int32) (h : inR m 128 = false) : CF K mX5_indirectInstruction (d + 1) [rR (2, i, 0), rI op, rI m] D (none) (stopF D i 2) := by
  refine CF.of [some (rR (2, i, 0)), some (rI op), some (rI m)] (by decide) (leb rfl) rfl ?_
  refine RD.iload_n (pc := 0) dX5_indirectInstruction_0 rfl ?_
  refine RD.cS1 (pc := 1) dX5_indirectInstruction_1 mlX5_102 (c_isPlace K _ D m) (leb rfl) ?_
  refine RD.if_ne (pc := 4) 15 dX5_indirectInstruction_4 (by decide) (fun c4 => absurd (bIout h) c4) (fun c4 => ?_)
  refine RD.aload_n (pc := 7) dX5_indirectInstruction_7 rfl ?_
  refine RD.iconst (pc := 8) (v := 2) dX5_indirectInstruction_8 (by decide) ?_
  refine RD.cV1v (pc := 9) dX5_indirectInstruction_9 mlX5_151 rfl (ok2 hi) rfl (c_stopBy K _ hi D 2) (leb rfl) ?_
  refine RD.goto (pc := 12) 43 dX5_indirectInstruction_12 (by decide) ?_
  refine RD.ret (pc := 43) ⟨rfl, dX5_indirectInstruction_43⟩ ?_
  exact ⟨rfl, rfl⟩

set_option maxRecDepth 20000 in
set_option maxHeartbeats 1000000 in
theorem c_indirect4 (K : EK) (d : Nat) {i : Nat} (hi : i < 8) (D : DT) {e : Nat} (he : e < 128) : CF K mX5_indirectInstruction (d + 1) [rR (2, i, 0), rI 4, rI (nI e)] D (none) (up D (2, i, 0) 2 (D (3, i, 0) e)) := by
  refine CF.of [some (rR (2, i, 0)), some (rI 4), some (rI (nI e))] (by decide) (leb rfl) rfl ?_
  refine RD.iload_n (pc := 0) dX5_indirectInstruction_0 rfl ?_
  refine RD.cS1 (pc := 1) dX5_indirectInstruction_1 mlX5_102 (c_isPlace K _ D (nI e)) (leb rfl) ?_
  refine RD.if_ne (pc := 4) 15 dX5_indirectInstruction_4 (by decide) (fun c4 => ?_) (fun c4 => absurd c4 (bIin (by decide) he))
  refine RD.iload_n (pc := 15) dX5_indirectInstruction_15 rfl ?_
  refine RD.iconst (pc := 16) (v := 4) dX5_indirectInstruction_16 (by decide) ?_
  refine RD.icmp_ne (pc := 17) 33 dX5_indirectInstruction_17 (by decide) (fun c17 => absurd rfl c17) (fun c17 => ?_)
  refine RD.aload_n (pc := 20) dX5_indirectInstruction_20 rfl ?_
  refine RD.aload_n (pc := 21) dX5_indirectInstruction_21 rfl ?_
  refine RD.getR (pc := 22) dX5_indirectInstruction_22 flX5_33 (ok2 hi) rfl rfl ?_
  refine RD.iload_n (pc := 25) dX5_indirectInstruction_25 rfl ?_
  refine RD.iL (pc := 26) (n := 128) e (v := D (3, i, 0) e) rfl dX5_indirectInstruction_26 (ok3 hi) rfl rfl he (by decide) ?_
  refine RD.putf (pc := 27) dX5_indirectInstruction_27 fpX5_108 (ok2 hi) rfl rfl rfl rfl ?_
  refine RD.goto (pc := 30) 43 dX5_indirectInstruction_30 (by decide) ?_
  refine RD.ret (pc := 43) ⟨rfl, dX5_indirectInstruction_43⟩ ?_
  exact ⟨rfl, rfl⟩

set_option maxRecDepth 20000 in
set_option maxHeartbeats 1000000 in
theorem c_indirect5 (K : EK) (d : Nat) {i : Nat} (hi : i < 8) (D : DT) {e : Nat} (he : e < 128) : CF K mX5_indirectInstruction (d + 1) [rR (2, i, 0), rI 5, rI (nI e)] D (none) (up D (3, i, 0) e (D (2, i, 0) 2)) := by
  refine CF.of [some (rR (2, i, 0)), some (rI 5), some (rI (nI e))] (by decide) (leb rfl) rfl ?_
  refine RD.iload_n (pc := 0) dX5_indirectInstruction_0 rfl ?_
  refine RD.cS1 (pc := 1) dX5_indirectInstruction_1 mlX5_102 (c_isPlace K _ D (nI e)) (leb rfl) ?_
  refine RD.if_ne (pc := 4) 15 dX5_indirectInstruction_4 (by decide) (fun c4 => ?_) (fun c4 => absurd c4 (bIin (by decide) he))
  refine RD.iload_n (pc := 15) dX5_indirectInstruction_15 rfl ?_
  refine RD.iconst (pc := 16) (v := 4) dX5_indirectInstruction_16 (by decide) ?_
  refine RD.icmp_ne (pc := 17) 33 dX5_indirectInstruction_17 (by decide) (fun c17 => ?_) (fun c17 => absurd c17 (by decide))
  refine RD.aload_n (pc := 33) dX5_indirectInstruction_33 rfl ?_
  refine RD.getR (pc := 34) dX5_indirectInstruction_34 flX5_33 (ok2 hi) rfl rfl ?_
  refine RD.iload_n (pc := 37) dX5_indirectInstruction_37 rfl ?_
  refine RD.aload_n (pc := 38) dX5_indirectInstruction_38 rfl ?_
  refine RD.gI (pc := 39) (v := D (2, i, 0) 2) rfl dX5_indirectInstruction_39 flX5_108 (ok2 hi) rfl rfl ?_
  refine RD.iast (pc := 42) (n := 128) e dX5_indirectInstruction_42 (ok3 hi) rfl rfl he (by decide) ?_
  refine RD.ret (pc := 43) ⟨rfl, dX5_indirectInstruction_43⟩ ?_
  exact ⟨rfl, rfl⟩

set_option maxRecDepth 20000 in
set_option maxHeartbeats 1000000 in
theorem c_divideN (K : EK) (d : Nat) {i : Nat} (hi : i < 8) (D : DT) (op : Int32) : CF K mX5_divideInstruction (d + 1) [rR (2, i, 0), rI op, rI 0] D (none) (stopF D i 3) := by
  refine CF.of [some (rR (2, i, 0)), some (rI op), some (rI 0)] (by decide) (leb rfl) rfl ?_
  refine RD.iload_n (pc := 0) dX5_divideInstruction_0 rfl ?_
  refine RD.if_ne (pc := 1) 12 dX5_divideInstruction_1 (by decide) (fun c1 => absurd rfl c1) (fun c1 => ?_)
  refine RD.aload_n (pc := 4) dX5_divideInstruction_4 rfl ?_
  refine RD.iconst (pc := 5) (v := 3) dX5_divideInstruction_5 (by decide) ?_
  refine RD.cV1v (pc := 6) dX5_divideInstruction_6 mlX5_151 rfl (ok2 hi) rfl (c_stopBy K _ hi D 3) (leb rfl) ?_
  refine RD.goto (pc := 9) 41 dX5_divideInstruction_9 (by decide) ?_
  refine RD.ret (pc := 41) ⟨rfl, dX5_divideInstruction_41⟩ ?_
  exact ⟨rfl, rfl⟩

set_option maxRecDepth 20000 in
set_option maxHeartbeats 1000000 in
theorem c_divide9 (K : EK) (d : Nat) {i : Nat} (hi : i < 8) (D : DT) (m : Int32) (h : ¬ m = 0) : CF K mX5_divideInstruction (d + 1) [rR (2, i, 0), rI 9, rI m] D (none) (up D (2, i, 0) 2 (D (2, i, 0) 2 / m)) := by
  refine CF.of [some (rR (2, i, 0)), some (rI 9), some (rI m)] (by decide) (leb rfl) rfl ?_
  refine RD.iload_n (pc := 0) dX5_divideInstruction_0 rfl ?_
  refine RD.if_ne (pc := 1) 12 dX5_divideInstruction_1 (by decide) (fun c1 => ?_) (fun c1 => absurd c1 h)
  refine RD.iload_n (pc := 12) dX5_divideInstruction_12 rfl ?_
  refine RD.bipush (pc := 13) (v := 9) dX5_divideInstruction_13 (by decide) ?_
  refine RD.icmp_ne (pc := 15) 31 dX5_divideInstruction_15 (by decide) (fun c15 => absurd rfl c15) (fun c15 => ?_)
  refine RD.aload_n (pc := 18) dX5_divideInstruction_18 rfl ?_
  refine RD.aload_n (pc := 19) dX5_divideInstruction_19 rfl ?_
  refine RD.gI (pc := 20) (v := D (2, i, 0) 2) rfl dX5_divideInstruction_20 flX5_108 (ok2 hi) rfl rfl ?_
  refine RD.iload_n (pc := 23) dX5_divideInstruction_23 rfl ?_
  refine RD.idiv (pc := 24) dX5_divideInstruction_24 h ?_
  refine RD.putf (pc := 25) dX5_divideInstruction_25 fpX5_108 (ok2 hi) rfl rfl rfl rfl ?_
  refine RD.goto (pc := 28) 41 dX5_divideInstruction_28 (by decide) ?_
  refine RD.ret (pc := 41) ⟨rfl, dX5_divideInstruction_41⟩ ?_
  exact ⟨rfl, rfl⟩

set_option maxRecDepth 20000 in
set_option maxHeartbeats 1000000 in
theorem c_divide10 (K : EK) (d : Nat) {i : Nat} (hi : i < 8) (D : DT) (m : Int32) (h : ¬ m = 0) : CF K mX5_divideInstruction (d + 1) [rR (2, i, 0), rI 10, rI m] D (none) (up D (2, i, 0) 2 (D (2, i, 0) 2 - D (2, i, 0) 2 / m * m)) := by
  refine CF.of [some (rR (2, i, 0)), some (rI 10), some (rI m)] (by decide) (leb rfl) rfl ?_
  refine RD.iload_n (pc := 0) dX5_divideInstruction_0 rfl ?_
  refine RD.if_ne (pc := 1) 12 dX5_divideInstruction_1 (by decide) (fun c1 => ?_) (fun c1 => absurd c1 h)
  refine RD.iload_n (pc := 12) dX5_divideInstruction_12 rfl ?_
  refine RD.bipush (pc := 13) (v := 9) dX5_divideInstruction_13 (by decide) ?_
  refine RD.icmp_ne (pc := 15) 31 dX5_divideInstruction_15 (by decide) (fun c15 => ?_) (fun c15 => absurd c15 (by decide))
  refine RD.aload_n (pc := 31) dX5_divideInstruction_31 rfl ?_
  refine RD.aload_n (pc := 32) dX5_divideInstruction_32 rfl ?_
  refine RD.gI (pc := 33) (v := D (2, i, 0) 2) rfl dX5_divideInstruction_33 flX5_108 (ok2 hi) rfl rfl ?_
  refine RD.iload_n (pc := 36) dX5_divideInstruction_36 rfl ?_
  refine RD.irem (pc := 37) dX5_divideInstruction_37 h ?_
  refine RD.putf (pc := 38) dX5_divideInstruction_38 fpX5_108 (ok2 hi) rfl rfl rfl rfl ?_
  refine RD.ret (pc := 41) ⟨rfl, dX5_divideInstruction_41⟩ ?_
  exact ⟨rfl, rfl⟩

set_option maxRecDepth 20000 in
set_option maxHeartbeats 1000000 in
theorem c_cell1 (K : EK) (d : Nat) {i : Nat} (hi : i < 8) (D : DT) {q : Nat} (hq : q < 128) : CF K mX5_cellInstruction (d + 2) [rR (2, i, 0), rI 1, rI (nI q)] D (none) (up D (2, i, 0) 2 (D (3, i, 0) q)) := by
  refine CF.of [some (rR (2, i, 0)), some (rI 1), some (rI (nI q)), none] (by decide) (leb rfl) rfl ?_
  refine RD.aload_n (pc := 0) dX5_cellInstruction_0 rfl ?_
  refine RD.getR (pc := 1) dX5_cellInstruction_1 flX5_33 (ok2 hi) rfl rfl ?_
  refine RD.iload_n (pc := 4) dX5_cellInstruction_4 rfl ?_
  refine RD.iL (pc := 5) (n := 128) q (v := D (3, i, 0) q) rfl dX5_cellInstruction_5 (ok3 hi) rfl rfl hq (by decide) ?_
  refine RD.istore_n (pc := 6) (ls' := [some (rR (2, i, 0)), some (rI 1), some (rI (nI q)), some (rI (D (3, i, 0) q))]) dX5_cellInstruction_6 (by decide) rfl ?_
  refine RD.iload_n (pc := 7) dX5_cellInstruction_7 rfl ?_
  refine RD.tableIn (pc := 8) 72 dX5_cellInstruction_8 (by decide) (by decide) rfl (by decide) ?_
  refine RD.aload_n (pc := 72) dX5_cellInstruction_72 rfl ?_
  refine RD.iload_n (pc := 73) dX5_cellInstruction_73 rfl ?_
  refine RD.putf (pc := 74) dX5_cellInstruction_74 fpX5_108 (ok2 hi) rfl rfl rfl rfl ?_
  refine RD.goto (pc := 77) 181 dX5_cellInstruction_77 (by decide) ?_
  refine RD.ret (pc := 181) ⟨rfl, dX5_cellInstruction_181⟩ ?_
  exact ⟨rfl, rfl⟩

set_option maxRecDepth 20000 in
set_option maxHeartbeats 1000000 in
theorem c_cell2 (K : EK) (d : Nat) {i : Nat} (hi : i < 8) (D : DT) {q : Nat} (hq : q < 128) : CF K mX5_cellInstruction (d + 2) [rR (2, i, 0), rI 2, rI (nI q)] D (none) (up D (3, i, 0) q (D (2, i, 0) 2)) := by
  refine CF.of [some (rR (2, i, 0)), some (rI 2), some (rI (nI q)), none] (by decide) (leb rfl) rfl ?_
  refine RD.aload_n (pc := 0) dX5_cellInstruction_0 rfl ?_
  refine RD.getR (pc := 1) dX5_cellInstruction_1 flX5_33 (ok2 hi) rfl rfl ?_
  refine RD.iload_n (pc := 4) dX5_cellInstruction_4 rfl ?_
  refine RD.iL (pc := 5) (n := 128) q (v := D (3, i, 0) q) rfl dX5_cellInstruction_5 (ok3 hi) rfl rfl hq (by decide) ?_
  refine RD.istore_n (pc := 6) (ls' := [some (rR (2, i, 0)), some (rI 2), some (rI (nI q)), some (rI (D (3, i, 0) q))]) dX5_cellInstruction_6 (by decide) rfl ?_
  refine RD.iload_n (pc := 7) dX5_cellInstruction_7 rfl ?_
  refine RD.tableIn (pc := 8) 80 dX5_cellInstruction_8 (by decide) (by decide) rfl (by decide) ?_
  refine RD.aload_n (pc := 80) dX5_cellInstruction_80 rfl ?_
  refine RD.getR (pc := 81) dX5_cellInstruction_81 flX5_33 (ok2 hi) rfl rfl ?_
  refine RD.iload_n (pc := 84) dX5_cellInstruction_84 rfl ?_
  refine RD.aload_n (pc := 85) dX5_cellInstruction_85 rfl ?_
  refine RD.gI (pc := 86) (v := D (2, i, 0) 2) rfl dX5_cellInstruction_86 flX5_108 (ok2 hi) rfl rfl ?_
  refine RD.iast (pc := 89) (n := 128) q dX5_cellInstruction_89 (ok3 hi) rfl rfl hq (by decide) ?_
  refine RD.goto (pc := 90) 181 dX5_cellInstruction_90 (by decide) ?_
  refine RD.ret (pc := 181) ⟨rfl, dX5_cellInstruction_181⟩ ?_
  exact ⟨rfl, rfl⟩

set_option maxRecDepth 20000 in
set_option maxHeartbeats 1000000 in
theorem c_cell6 (K : EK) (d : Nat) {i : Nat} (hi : i < 8) (D : DT) {q : Nat} (hq : q < 128) : CF K mX5_cellInstruction (d + 2) [rR (2, i, 0), rI 6, rI (nI q)] D (none) (up D (2, i, 0) 2 (D (2, i, 0) 2 + D (3, i, 0) q)) := by
  refine CF.of [some (rR (2, i, 0)), some (rI 6), some (rI (nI q)), none] (by decide) (leb rfl) rfl ?_
  refine RD.aload_n (pc := 0) dX5_cellInstruction_0 rfl ?_
  refine RD.getR (pc := 1) dX5_cellInstruction_1 flX5_33 (ok2 hi) rfl rfl ?_
  refine RD.iload_n (pc := 4) dX5_cellInstruction_4 rfl ?_
  refine RD.iL (pc := 5) (n := 128) q (v := D (3, i, 0) q) rfl dX5_cellInstruction_5 (ok3 hi) rfl rfl hq (by decide) ?_
  refine RD.istore_n (pc := 6) (ls' := [some (rR (2, i, 0)), some (rI 6), some (rI (nI q)), some (rI (D (3, i, 0) q))]) dX5_cellInstruction_6 (by decide) rfl ?_
  refine RD.iload_n (pc := 7) dX5_cellInstruction_7 rfl ?_
  refine RD.tableIn (pc := 8) 102 dX5_cellInstruction_8 (by decide) (by decide) rfl (by decide) ?_
  refine RD.aload_n (pc := 102) dX5_cellInstruction_102 rfl ?_
  refine RD.aload_n (pc := 103) dX5_cellInstruction_103 rfl ?_
  refine RD.gI (pc := 104) (v := D (2, i, 0) 2) rfl dX5_cellInstruction_104 flX5_108 (ok2 hi) rfl rfl ?_
  refine RD.iload_n (pc := 107) dX5_cellInstruction_107 rfl ?_
  refine RD.iadd (pc := 108) dX5_cellInstruction_108 ?_
  refine RD.putf (pc := 109) dX5_cellInstruction_109 fpX5_108 (ok2 hi) rfl rfl rfl rfl ?_
  refine RD.goto (pc := 112) 181 dX5_cellInstruction_112 (by decide) ?_
  refine RD.ret (pc := 181) ⟨rfl, dX5_cellInstruction_181⟩ ?_
  exact ⟨rfl, rfl⟩

set_option maxRecDepth 20000 in
set_option maxHeartbeats 1000000 in
theorem c_cell7 (K : EK) (d : Nat) {i : Nat} (hi : i < 8) (D : DT) {q : Nat} (hq : q < 128) : CF K mX5_cellInstruction (d + 2) [rR (2, i, 0), rI 7, rI (nI q)] D (none) (up D (2, i, 0) 2 (D (2, i, 0) 2 - D (3, i, 0) q)) := by
  refine CF.of [some (rR (2, i, 0)), some (rI 7), some (rI (nI q)), none] (by decide) (leb rfl) rfl ?_
  refine RD.aload_n (pc := 0) dX5_cellInstruction_0 rfl ?_
  refine RD.getR (pc := 1) dX5_cellInstruction_1 flX5_33 (ok2 hi) rfl rfl ?_
  refine RD.iload_n (pc := 4) dX5_cellInstruction_4 rfl ?_
  refine RD.iL (pc := 5) (n := 128) q (v := D (3, i, 0) q) rfl dX5_cellInstruction_5 (ok3 hi) rfl rfl hq (by decide) ?_
  refine RD.istore_n (pc := 6) (ls' := [some (rR (2, i, 0)), some (rI 7), some (rI (nI q)), some (rI (D (3, i, 0) q))]) dX5_cellInstruction_6 (by decide) rfl ?_
  refine RD.iload_n (pc := 7) dX5_cellInstruction_7 rfl ?_
  refine RD.tableIn (pc := 8) 115 dX5_cellInstruction_8 (by decide) (by decide) rfl (by decide) ?_
  refine RD.aload_n (pc := 115) dX5_cellInstruction_115 rfl ?_
  refine RD.aload_n (pc := 116) dX5_cellInstruction_116 rfl ?_
  refine RD.gI (pc := 117) (v := D (2, i, 0) 2) rfl dX5_cellInstruction_117 flX5_108 (ok2 hi) rfl rfl ?_
  refine RD.iload_n (pc := 120) dX5_cellInstruction_120 rfl ?_
  refine RD.isub (pc := 121) dX5_cellInstruction_121 ?_
  refine RD.putf (pc := 122) dX5_cellInstruction_122 fpX5_108 (ok2 hi) rfl rfl rfl rfl ?_
  refine RD.goto (pc := 125) 181 dX5_cellInstruction_125 (by decide) ?_
  refine RD.ret (pc := 181) ⟨rfl, dX5_cellInstruction_181⟩ ?_
  exact ⟨rfl, rfl⟩

set_option maxRecDepth 20000 in
set_option maxHeartbeats 1000000 in
theorem c_cell8 (K : EK) (d : Nat) {i : Nat} (hi : i < 8) (D : DT) {q : Nat} (hq : q < 128) : CF K mX5_cellInstruction (d + 2) [rR (2, i, 0), rI 8, rI (nI q)] D (none) (up D (2, i, 0) 2 (D (2, i, 0) 2 * D (3, i, 0) q)) := by
  refine CF.of [some (rR (2, i, 0)), some (rI 8), some (rI (nI q)), none] (by decide) (leb rfl) rfl ?_
  refine RD.aload_n (pc := 0) dX5_cellInstruction_0 rfl ?_
  refine RD.getR (pc := 1) dX5_cellInstruction_1 flX5_33 (ok2 hi) rfl rfl ?_
  refine RD.iload_n (pc := 4) dX5_cellInstruction_4 rfl ?_
  refine RD.iL (pc := 5) (n := 128) q (v := D (3, i, 0) q) rfl dX5_cellInstruction_5 (ok3 hi) rfl rfl hq (by decide) ?_
  refine RD.istore_n (pc := 6) (ls' := [some (rR (2, i, 0)), some (rI 8), some (rI (nI q)), some (rI (D (3, i, 0) q))]) dX5_cellInstruction_6 (by decide) rfl ?_
  refine RD.iload_n (pc := 7) dX5_cellInstruction_7 rfl ?_
  refine RD.tableIn (pc := 8) 128 dX5_cellInstruction_8 (by decide) (by decide) rfl (by decide) ?_
  refine RD.aload_n (pc := 128) dX5_cellInstruction_128 rfl ?_
  refine RD.aload_n (pc := 129) dX5_cellInstruction_129 rfl ?_
  refine RD.gI (pc := 130) (v := D (2, i, 0) 2) rfl dX5_cellInstruction_130 flX5_108 (ok2 hi) rfl rfl ?_
  refine RD.iload_n (pc := 133) dX5_cellInstruction_133 rfl ?_
  refine RD.imul (pc := 134) dX5_cellInstruction_134 ?_
  refine RD.putf (pc := 135) dX5_cellInstruction_135 fpX5_108 (ok2 hi) rfl rfl rfl rfl ?_
  refine RD.goto (pc := 138) 181 dX5_cellInstruction_138 (by decide) ?_
  refine RD.ret (pc := 181) ⟨rfl, dX5_cellInstruction_181⟩ ?_
  exact ⟨rfl, rfl⟩

set_option maxRecDepth 20000 in
set_option maxHeartbeats 1000000 in
theorem c_cell11 (K : EK) (d : Nat) {i : Nat} (hi : i < 8) (D : DT) {q : Nat} (hq : q < 128) : CF K mX5_cellInstruction (d + 2) [rR (2, i, 0), rI 11, rI (nI q)] D (none) (up D (2, i, 0) 2 (D (2, i, 0) 2 &&& D (3, i, 0) q)) := by
  refine CF.of [some (rR (2, i, 0)), some (rI 11), some (rI (nI q)), none] (by decide) (leb rfl) rfl ?_
  refine RD.aload_n (pc := 0) dX5_cellInstruction_0 rfl ?_
  refine RD.getR (pc := 1) dX5_cellInstruction_1 flX5_33 (ok2 hi) rfl rfl ?_
  refine RD.iload_n (pc := 4) dX5_cellInstruction_4 rfl ?_
  refine RD.iL (pc := 5) (n := 128) q (v := D (3, i, 0) q) rfl dX5_cellInstruction_5 (ok3 hi) rfl rfl hq (by decide) ?_
  refine RD.istore_n (pc := 6) (ls' := [some (rR (2, i, 0)), some (rI 11), some (rI (nI q)), some (rI (D (3, i, 0) q))]) dX5_cellInstruction_6 (by decide) rfl ?_
  refine RD.iload_n (pc := 7) dX5_cellInstruction_7 rfl ?_
  refine RD.tableIn (pc := 8) 150 dX5_cellInstruction_8 (by decide) (by decide) rfl (by decide) ?_
  refine RD.aload_n (pc := 150) dX5_cellInstruction_150 rfl ?_
  refine RD.aload_n (pc := 151) dX5_cellInstruction_151 rfl ?_
  refine RD.gI (pc := 152) (v := D (2, i, 0) 2) rfl dX5_cellInstruction_152 flX5_108 (ok2 hi) rfl rfl ?_
  refine RD.iload_n (pc := 155) dX5_cellInstruction_155 rfl ?_
  refine RD.iand (pc := 156) dX5_cellInstruction_156 ?_
  refine RD.putf (pc := 157) dX5_cellInstruction_157 fpX5_108 (ok2 hi) rfl rfl rfl rfl ?_
  refine RD.goto (pc := 160) 181 dX5_cellInstruction_160 (by decide) ?_
  refine RD.ret (pc := 181) ⟨rfl, dX5_cellInstruction_181⟩ ?_
  exact ⟨rfl, rfl⟩

set_option maxRecDepth 20000 in
set_option maxHeartbeats 1000000 in
theorem c_cell12 (K : EK) (d : Nat) {i : Nat} (hi : i < 8) (D : DT) {q : Nat} (hq : q < 128) : CF K mX5_cellInstruction (d + 2) [rR (2, i, 0), rI 12, rI (nI q)] D (none) (up D (2, i, 0) 2 (D (2, i, 0) 2 ^^^ D (3, i, 0) q)) := by
  refine CF.of [some (rR (2, i, 0)), some (rI 12), some (rI (nI q)), none] (by decide) (leb rfl) rfl ?_
  refine RD.aload_n (pc := 0) dX5_cellInstruction_0 rfl ?_
  refine RD.getR (pc := 1) dX5_cellInstruction_1 flX5_33 (ok2 hi) rfl rfl ?_
  refine RD.iload_n (pc := 4) dX5_cellInstruction_4 rfl ?_
  refine RD.iL (pc := 5) (n := 128) q (v := D (3, i, 0) q) rfl dX5_cellInstruction_5 (ok3 hi) rfl rfl hq (by decide) ?_
  refine RD.istore_n (pc := 6) (ls' := [some (rR (2, i, 0)), some (rI 12), some (rI (nI q)), some (rI (D (3, i, 0) q))]) dX5_cellInstruction_6 (by decide) rfl ?_
  refine RD.iload_n (pc := 7) dX5_cellInstruction_7 rfl ?_
  refine RD.tableIn (pc := 8) 163 dX5_cellInstruction_8 (by decide) (by decide) rfl (by decide) ?_
  refine RD.aload_n (pc := 163) dX5_cellInstruction_163 rfl ?_
  refine RD.aload_n (pc := 164) dX5_cellInstruction_164 rfl ?_
  refine RD.gI (pc := 165) (v := D (2, i, 0) 2) rfl dX5_cellInstruction_165 flX5_108 (ok2 hi) rfl rfl ?_
  refine RD.iload_n (pc := 168) dX5_cellInstruction_168 rfl ?_
  refine RD.ixor (pc := 169) dX5_cellInstruction_169 ?_
  refine RD.putf (pc := 170) dX5_cellInstruction_170 fpX5_108 (ok2 hi) rfl rfl rfl rfl ?_
  refine RD.goto (pc := 173) 181 dX5_cellInstruction_173 (by decide) ?_
  refine RD.ret (pc := 181) ⟨rfl, dX5_cellInstruction_181⟩ ?_
  exact ⟨rfl, rfl⟩

set_option maxRecDepth 20000 in
set_option maxHeartbeats 1000000 in
theorem c_cell4N (K : EK) (d : Nat) {i : Nat} (hi : i < 8) (D : DT) {q : Nat} (hq : q < 128) (h : inR (D (3, i, 0) q) 128 = false) : CF K mX5_cellInstruction (d + 2) [rR (2, i, 0), rI 4, rI (nI q)] D (none) (stopF D i 2) := by
  refine CF.of [some (rR (2, i, 0)), some (rI 4), some (rI (nI q)), none] (by decide) (leb rfl) rfl ?_
  refine RD.aload_n (pc := 0) dX5_cellInstruction_0 rfl ?_
  refine RD.getR (pc := 1) dX5_cellInstruction_1 flX5_33 (ok2 hi) rfl rfl ?_
  refine RD.iload_n (pc := 4) dX5_cellInstruction_4 rfl ?_
  refine RD.iL (pc := 5) (n := 128) q (v := D (3, i, 0) q) rfl dX5_cellInstruction_5 (ok3 hi) rfl rfl hq (by decide) ?_
  refine RD.istore_n (pc := 6) (ls' := [some (rR (2, i, 0)), some (rI 4), some (rI (nI q)), some (rI (D (3, i, 0) q))]) dX5_cellInstruction_6 (by decide) rfl ?_
  refine RD.iload_n (pc := 7) dX5_cellInstruction_7 rfl ?_
  refine RD.tableIn (pc := 8) 93 dX5_cellInstruction_8 (by decide) (by decide) rfl (by decide) ?_
  refine RD.aload_n (pc := 93) dX5_cellInstruction_93 rfl ?_
  refine RD.iload_n (pc := 94) dX5_cellInstruction_94 rfl ?_
  refine RD.iload_n (pc := 95) dX5_cellInstruction_95 rfl ?_
  refine RD.cS3v (pc := 96) dX5_cellInstruction_96 mlX5_168 (c_indirectN K _ hi D 4 _ h) (leb rfl) ?_
  refine RD.goto (pc := 99) 181 dX5_cellInstruction_99 (by decide) ?_
  refine RD.ret (pc := 181) ⟨rfl, dX5_cellInstruction_181⟩ ?_
  exact ⟨rfl, rfl⟩

set_option maxRecDepth 20000 in
set_option maxHeartbeats 1000000 in
theorem c_cell4 (K : EK) (d : Nat) {i : Nat} (hi : i < 8) (D : DT) {q : Nat} (hq : q < 128) {e : Nat} (he : e < 128) (h : D (3, i, 0) q = nI e) : CF K mX5_cellInstruction (d + 2) [rR (2, i, 0), rI 4, rI (nI q)] D (none) (up D (2, i, 0) 2 (D (3, i, 0) e)) := by
  refine CF.of [some (rR (2, i, 0)), some (rI 4), some (rI (nI q)), none] (by decide) (leb rfl) rfl ?_
  refine RD.aload_n (pc := 0) dX5_cellInstruction_0 rfl ?_
  refine RD.getR (pc := 1) dX5_cellInstruction_1 flX5_33 (ok2 hi) rfl rfl ?_
  refine RD.iload_n (pc := 4) dX5_cellInstruction_4 rfl ?_
  refine RD.iL (pc := 5) (n := 128) q (v := D (3, i, 0) q) rfl dX5_cellInstruction_5 (ok3 hi) rfl rfl hq (by decide) ?_
  refine RD.istore_n (pc := 6) (ls' := [some (rR (2, i, 0)), some (rI 4), some (rI (nI q)), some (rI (D (3, i, 0) q))]) dX5_cellInstruction_6 (by decide) rfl ?_
  refine RD.iload_n (pc := 7) dX5_cellInstruction_7 rfl ?_
  refine RD.tableIn (pc := 8) 93 dX5_cellInstruction_8 (by decide) (by decide) rfl (by decide) ?_
  refine RD.aload_n (pc := 93) dX5_cellInstruction_93 rfl ?_
  refine RD.iload_n (pc := 94) dX5_cellInstruction_94 rfl ?_
  refine RD.iload_n (pc := 95) dX5_cellInstruction_95 rfl ?_
  refine RD.cS3v (pc := 96) dX5_cellInstruction_96 mlX5_168 (by rw [h]; exact c_indirect4 K _ hi D he) (leb rfl) ?_
  refine RD.goto (pc := 99) 181 dX5_cellInstruction_99 (by decide) ?_
  refine RD.ret (pc := 181) ⟨rfl, dX5_cellInstruction_181⟩ ?_
  exact ⟨rfl, rfl⟩

set_option maxRecDepth 20000 in
set_option maxHeartbeats 1000000 in
theorem c_cell5N (K : EK) (d : Nat) {i : Nat} (hi : i < 8) (D : DT) {q : Nat} (hq : q < 128) (h : inR (D (3, i, 0) q) 128 = false) : CF K mX5_cellInstruction (d + 2) [rR (2, i, 0), rI 5, rI (nI q)] D (none) (stopF D i 2) := by
  refine CF.of [some (rR (2, i, 0)), some (rI 5), some (rI (nI q)), none] (by decide) (leb rfl) rfl ?_
  refine RD.aload_n (pc := 0) dX5_cellInstruction_0 rfl ?_
  refine RD.getR (pc := 1) dX5_cellInstruction_1 flX5_33 (ok2 hi) rfl rfl ?_
  refine RD.iload_n (pc := 4) dX5_cellInstruction_4 rfl ?_
  refine RD.iL (pc := 5) (n := 128) q (v := D (3, i, 0) q) rfl dX5_cellInstruction_5 (ok3 hi) rfl rfl hq (by decide) ?_
  refine RD.istore_n (pc := 6) (ls' := [some (rR (2, i, 0)), some (rI 5), some (rI (nI q)), some (rI (D (3, i, 0) q))]) dX5_cellInstruction_6 (by decide) rfl ?_
  refine RD.iload_n (pc := 7) dX5_cellInstruction_7 rfl ?_
  refine RD.tableIn (pc := 8) 93 dX5_cellInstruction_8 (by decide) (by decide) rfl (by decide) ?_
  refine RD.aload_n (pc := 93) dX5_cellInstruction_93 rfl ?_
  refine RD.iload_n (pc := 94) dX5_cellInstruction_94 rfl ?_
  refine RD.iload_n (pc := 95) dX5_cellInstruction_95 rfl ?_
  refine RD.cS3v (pc := 96) dX5_cellInstruction_96 mlX5_168 (c_indirectN K _ hi D 5 _ h) (leb rfl) ?_
  refine RD.goto (pc := 99) 181 dX5_cellInstruction_99 (by decide) ?_
  refine RD.ret (pc := 181) ⟨rfl, dX5_cellInstruction_181⟩ ?_
  exact ⟨rfl, rfl⟩

set_option maxRecDepth 20000 in
set_option maxHeartbeats 1000000 in
theorem c_cell5 (K : EK) (d : Nat) {i : Nat} (hi : i < 8) (D : DT) {q : Nat} (hq : q < 128) {e : Nat} (he : e < 128) (h : D (3, i, 0) q = nI e) : CF K mX5_cellInstruction (d + 2) [rR (2, i, 0), rI 5, rI (nI q)] D (none) (up D (3, i, 0) e (D (2, i, 0) 2)) := by
  refine CF.of [some (rR (2, i, 0)), some (rI 5), some (rI (nI q)), none] (by decide) (leb rfl) rfl ?_
  refine RD.aload_n (pc := 0) dX5_cellInstruction_0 rfl ?_
  refine RD.getR (pc := 1) dX5_cellInstruction_1 flX5_33 (ok2 hi) rfl rfl ?_
  refine RD.iload_n (pc := 4) dX5_cellInstruction_4 rfl ?_
  refine RD.iL (pc := 5) (n := 128) q (v := D (3, i, 0) q) rfl dX5_cellInstruction_5 (ok3 hi) rfl rfl hq (by decide) ?_
  refine RD.istore_n (pc := 6) (ls' := [some (rR (2, i, 0)), some (rI 5), some (rI (nI q)), some (rI (D (3, i, 0) q))]) dX5_cellInstruction_6 (by decide) rfl ?_
  refine RD.iload_n (pc := 7) dX5_cellInstruction_7 rfl ?_
  refine RD.tableIn (pc := 8) 93 dX5_cellInstruction_8 (by decide) (by decide) rfl (by decide) ?_
  refine RD.aload_n (pc := 93) dX5_cellInstruction_93 rfl ?_
  refine RD.iload_n (pc := 94) dX5_cellInstruction_94 rfl ?_
  refine RD.iload_n (pc := 95) dX5_cellInstruction_95 rfl ?_
  refine RD.cS3v (pc := 96) dX5_cellInstruction_96 mlX5_168 (by rw [h]; exact c_indirect5 K _ hi D he) (leb rfl) ?_
  refine RD.goto (pc := 99) 181 dX5_cellInstruction_99 (by decide) ?_
  refine RD.ret (pc := 181) ⟨rfl, dX5_cellInstruction_181⟩ ?_
  exact ⟨rfl, rfl⟩

set_option maxRecDepth 20000 in
set_option maxHeartbeats 1000000 in
theorem c_cell9N (K : EK) (d : Nat) {i : Nat} (hi : i < 8) (D : DT) {q : Nat} (hq : q < 128) (h : D (3, i, 0) q = 0) : CF K mX5_cellInstruction (d + 2) [rR (2, i, 0), rI 9, rI (nI q)] D (none) (stopF D i 3) := by
  refine CF.of [some (rR (2, i, 0)), some (rI 9), some (rI (nI q)), none] (by decide) (leb rfl) rfl ?_
  refine RD.aload_n (pc := 0) dX5_cellInstruction_0 rfl ?_
  refine RD.getR (pc := 1) dX5_cellInstruction_1 flX5_33 (ok2 hi) rfl rfl ?_
  refine RD.iload_n (pc := 4) dX5_cellInstruction_4 rfl ?_
  refine RD.iL (pc := 5) (n := 128) q (v := D (3, i, 0) q) rfl dX5_cellInstruction_5 (ok3 hi) rfl rfl hq (by decide) ?_
  refine RD.istore_n (pc := 6) (ls' := [some (rR (2, i, 0)), some (rI 9), some (rI (nI q)), some (rI (D (3, i, 0) q))]) dX5_cellInstruction_6 (by decide) rfl ?_
  refine RD.iload_n (pc := 7) dX5_cellInstruction_7 rfl ?_
  refine RD.tableIn (pc := 8) 141 dX5_cellInstruction_8 (by decide) (by decide) rfl (by decide) ?_
  refine RD.aload_n (pc := 141) dX5_cellInstruction_141 rfl ?_
  refine RD.iload_n (pc := 142) dX5_cellInstruction_142 rfl ?_
  refine RD.iload_n (pc := 143) dX5_cellInstruction_143 rfl ?_
  refine RD.cS3v (pc := 144) dX5_cellInstruction_144 mlX5_171 (by rw [h]; exact c_divideN K _ hi D 9) (leb rfl) ?_
  refine RD.goto (pc := 147) 181 dX5_cellInstruction_147 (by decide) ?_
  refine RD.ret (pc := 181) ⟨rfl, dX5_cellInstruction_181⟩ ?_
  exact ⟨rfl, rfl⟩

set_option maxRecDepth 20000 in
set_option maxHeartbeats 1000000 in
theorem c_cell9 (K : EK) (d : Nat) {i : Nat} (hi : i < 8) (D : DT) {q : Nat} (hq : q < 128) (h : ¬ D (3, i, 0) q = 0) : CF K mX5_cellInstruction (d + 2) [rR (2, i, 0), rI 9, rI (nI q)] D (none) (up D (2, i, 0) 2 (D (2, i, 0) 2 / D (3, i, 0) q)) := by
  refine CF.of [some (rR (2, i, 0)), some (rI 9), some (rI (nI q)), none] (by decide) (leb rfl) rfl ?_
  refine RD.aload_n (pc := 0) dX5_cellInstruction_0 rfl ?_
  refine RD.getR (pc := 1) dX5_cellInstruction_1 flX5_33 (ok2 hi) rfl rfl ?_
  refine RD.iload_n (pc := 4) dX5_cellInstruction_4 rfl ?_
  refine RD.iL (pc := 5) (n := 128) q (v := D (3, i, 0) q) rfl dX5_cellInstruction_5 (ok3 hi) rfl rfl hq (by decide) ?_
  refine RD.istore_n (pc := 6) (ls' := [some (rR (2, i, 0)), some (rI 9), some (rI (nI q)), some (rI (D (3, i, 0) q))]) dX5_cellInstruction_6 (by decide) rfl ?_
  refine RD.iload_n (pc := 7) dX5_cellInstruction_7 rfl ?_
  refine RD.tableIn (pc := 8) 141 dX5_cellInstruction_8 (by decide) (by decide) rfl (by decide) ?_
  refine RD.aload_n (pc := 141) dX5_cellInstruction_141 rfl ?_
  refine RD.iload_n (pc := 142) dX5_cellInstruction_142 rfl ?_
  refine RD.iload_n (pc := 143) dX5_cellInstruction_143 rfl ?_
  refine RD.cS3v (pc := 144) dX5_cellInstruction_144 mlX5_171 (c_divide9 K _ hi D _ h) (leb rfl) ?_
  refine RD.goto (pc := 147) 181 dX5_cellInstruction_147 (by decide) ?_
  refine RD.ret (pc := 181) ⟨rfl, dX5_cellInstruction_181⟩ ?_
  exact ⟨rfl, rfl⟩

set_option maxRecDepth 20000 in
set_option maxHeartbeats 1000000 in
theorem c_cell10N (K : EK) (d : Nat) {i : Nat} (hi : i < 8) (D : DT) {q : Nat} (hq : q < 128) (h : D (3, i, 0) q = 0) : CF K mX5_cellInstruction (d + 2) [rR (2, i, 0), rI 10, rI (nI q)] D (none) (stopF D i 3) := by
  refine CF.of [some (rR (2, i, 0)), some (rI 10), some (rI (nI q)), none] (by decide) (leb rfl) rfl ?_
  refine RD.aload_n (pc := 0) dX5_cellInstruction_0 rfl ?_
  refine RD.getR (pc := 1) dX5_cellInstruction_1 flX5_33 (ok2 hi) rfl rfl ?_
  refine RD.iload_n (pc := 4) dX5_cellInstruction_4 rfl ?_
  refine RD.iL (pc := 5) (n := 128) q (v := D (3, i, 0) q) rfl dX5_cellInstruction_5 (ok3 hi) rfl rfl hq (by decide) ?_
  refine RD.istore_n (pc := 6) (ls' := [some (rR (2, i, 0)), some (rI 10), some (rI (nI q)), some (rI (D (3, i, 0) q))]) dX5_cellInstruction_6 (by decide) rfl ?_
  refine RD.iload_n (pc := 7) dX5_cellInstruction_7 rfl ?_
  refine RD.tableIn (pc := 8) 141 dX5_cellInstruction_8 (by decide) (by decide) rfl (by decide) ?_
  refine RD.aload_n (pc := 141) dX5_cellInstruction_141 rfl ?_
  refine RD.iload_n (pc := 142) dX5_cellInstruction_142 rfl ?_
  refine RD.iload_n (pc := 143) dX5_cellInstruction_143 rfl ?_
  refine RD.cS3v (pc := 144) dX5_cellInstruction_144 mlX5_171 (by rw [h]; exact c_divideN K _ hi D 10) (leb rfl) ?_
  refine RD.goto (pc := 147) 181 dX5_cellInstruction_147 (by decide) ?_
  refine RD.ret (pc := 181) ⟨rfl, dX5_cellInstruction_181⟩ ?_
  exact ⟨rfl, rfl⟩

set_option maxRecDepth 20000 in
set_option maxHeartbeats 1000000 in
theorem c_cell10 (K : EK) (d : Nat) {i : Nat} (hi : i < 8) (D : DT) {q : Nat} (hq : q < 128) (h : ¬ D (3, i, 0) q = 0) : CF K mX5_cellInstruction (d + 2) [rR (2, i, 0), rI 10, rI (nI q)] D (none) (up D (2, i, 0) 2 (D (2, i, 0) 2 - D (2, i, 0) 2 / D (3, i, 0) q * D (3, i, 0) q)) := by
  refine CF.of [some (rR (2, i, 0)), some (rI 10), some (rI (nI q)), none] (by decide) (leb rfl) rfl ?_
  refine RD.aload_n (pc := 0) dX5_cellInstruction_0 rfl ?_
  refine RD.getR (pc := 1) dX5_cellInstruction_1 flX5_33 (ok2 hi) rfl rfl ?_
  refine RD.iload_n (pc := 4) dX5_cellInstruction_4 rfl ?_
  refine RD.iL (pc := 5) (n := 128) q (v := D (3, i, 0) q) rfl dX5_cellInstruction_5 (ok3 hi) rfl rfl hq (by decide) ?_
  refine RD.istore_n (pc := 6) (ls' := [some (rR (2, i, 0)), some (rI 10), some (rI (nI q)), some (rI (D (3, i, 0) q))]) dX5_cellInstruction_6 (by decide) rfl ?_
  refine RD.iload_n (pc := 7) dX5_cellInstruction_7 rfl ?_
  refine RD.tableIn (pc := 8) 141 dX5_cellInstruction_8 (by decide) (by decide) rfl (by decide) ?_
  refine RD.aload_n (pc := 141) dX5_cellInstruction_141 rfl ?_
  refine RD.iload_n (pc := 142) dX5_cellInstruction_142 rfl ?_
  refine RD.iload_n (pc := 143) dX5_cellInstruction_143 rfl ?_
  refine RD.cS3v (pc := 144) dX5_cellInstruction_144 mlX5_171 (c_divide10 K _ hi D _ h) (leb rfl) ?_
  refine RD.goto (pc := 147) 181 dX5_cellInstruction_147 (by decide) ?_
  refine RD.ret (pc := 181) ⟨rfl, dX5_cellInstruction_181⟩ ?_
  exact ⟨rfl, rfl⟩


/-- a LIST stands there -/
def rlOK (D : DT) (i : Nat) (a : Int32) : Prop := ∃ q w, q < 128 ∧ a = nI q ∧ D (3, i, 0) q = nI w ∧ w ≤ 16 ∧ q + w < 128
def rlN (D : DT) (i q : Nat) : Nat → DT
  | 0 => clrF D 8 0
  | k + 1 => addF (rlN D i q k) 8 0 (D (3, i, 0) (q + (k + 1)))
theorem rlN_o {D : DT} {i q k : Nat} {a : AD} (h4 : a.1 ≠ 4) (h5 : a.1 ≠ 5) : rlN D i q k a = D a := by
  induction k with
  | zero => exact clrF_o h4 h5
  | succ k ih => rw [rlN, addF_o h4 h5, ih]

set_option maxRecDepth 20000 in
set_option maxHeartbeats 2000000 in
theorem l_readList (K : EK) (d : Nat) {i : Nat} (hi : i < 8) (D : DT) {q w : Nat} (hq : q < 128) (hw : w ≤ 16) (hqw : q + w < 128) : ∀ n k, k ≤ w → w + 1 ≤ k + n → RD K mX5_readList (d + 2) 47 [some (rR (0, 0, 0)), some (rR (2, i, 0)), some (rI (nI q)), some (rI (nI w)), some (rI (nI (k + 1)))] [] (rlN D i q k) (fun r0 D0 => r0 = some (rI 1) ∧ D0 = rlN D i q w) := by
  intro n
  induction n with
  | zero => intro k h1 h2; omega
  | succ n ih =>
    intro k hk hn
    refine RD.iload (pc := 47) dX5_readList_47 rfl ?_
    refine RD.iload_n (pc := 49) dX5_readList_49 rfl ?_
    refine RD.icmp_gt (pc := 50) 75 dX5_readList_50 (by decide) (fun c50 => ?_) (fun c50 => ?_)
    · have hkw : k = w := by
        have := (not_congr (nI_leI (a := k + 1) (b := w) (by omega) (by omega))).mp (Int32.not_le.mpr c50)
        omega
      subst hkw
      refine RD.iconst (pc := 75) (v := 1) dX5_readList_75 (by decide) ?_
      refine RD.ireturn (pc := 76) dX5_readList_76 rfl rfl ?_
      exact ⟨rfl, rfl⟩
    · have hkw : k < w := Nat.lt_of_not_le (fun h => c50 (nI_lt (a := w) (b := k + 1) (by omega) (by omega)))
      refine RD.aload_n (pc := 53) dX5_readList_53 rfl ?_
      refine RD.getR (pc := 54) dX5_readList_54 flX5_21 ok0 rfl rfl ?_
      refine RD.aload_n (pc := 57) dX5_readList_57 rfl ?_
      refine RD.getR (pc := 58) dX5_readList_58 flX5_33 (ok2 hi) rfl rfl ?_
      refine RD.iload_n (pc := 61) dX5_readList_61 rfl ?_
      refine RD.iload (pc := 62) dX5_readList_62 rfl ?_
      refine RD.iadd (pc := 64) dX5_readList_64 ?_
      refine RD.iL (pc := 65) (n := 128) (q + (k + 1)) (v := D (3, i, 0) (q + (k + 1))) (congrFun (rlN_o (by simp) (by simp)) _) dX5_readList_65 (ok3 hi) rfl (nI_add q (k + 1)) (by omega) (by decide) ?_
      refine RD.cV1v (pc := 66) dX5_readList_66 mlX5_217 rfl ok4L rfl (c_add K _ ok4L (rlN D i q k) (D (3, i, 0) (q + (k + 1)))) (leb rfl) ?_
      refine RD.iinc (pc := 69) (ls' := [some (rR (0, 0, 0)), some (rR (2, i, 0)), some (rI (nI q)), some (rI (nI w)), some (rI ((nI (k + 1)) + 1))]) dX5_readList_69 rfl rfl (by decide) rfl ?_
      refine RD.goto (pc := 72) 47 dX5_readList_72 (by decide) ?_
      rw [nI_1]
      exact ih (k + 1) (by omega) (by omega)

set_option maxRecDepth 20000 in
set_option maxHeartbeats 1000000 in
theorem c_readList (K : EK) (d : Nat) {i : Nat} (hi : i < 8) (D : DT) {q w : Nat} (hq : q < 128) (hw : w ≤ 16) (hqw : q + w < 128) (hv : D (3, i, 0) q = nI w) : CF K mX5_readList (d + 2) [rR (0, 0, 0), rR (2, i, 0), rI (nI q)] D (some (rI 1)) (rlN D i q w) := by
  refine CF.of [some (rR (0, 0, 0)), some (rR (2, i, 0)), some (rI (nI q)), none, none] (by decide) (leb rfl) rfl ?_
  refine RD.iload_n (pc := 0) dX5_readList_0 rfl ?_
  refine RD.cS1 (pc := 1) dX5_readList_1 mlX5_102 (c_isPlace K _ D (nI q)) (leb rfl) ?_
  refine RD.if_ne (pc := 4) 9 dX5_readList_4 (by decide) (fun c4 => ?_) (fun c4 => absurd c4 (bIin (by decide) hq))
  refine RD.aload_n (pc := 9) dX5_readList_9 rfl ?_
  refine RD.getR (pc := 10) dX5_readList_10 flX5_33 (ok2 hi) rfl rfl ?_
  refine RD.iload_n (pc := 13) dX5_readList_13 rfl ?_
  refine RD.iL (pc := 14) (n := 128) q (v := nI w) hv dX5_readList_14 (ok3 hi) rfl rfl hq (by decide) ?_
  refine RD.istore_n (pc := 15) (ls' := [some (rR (0, 0, 0)), some (rR (2, i, 0)), some (rI (nI q)), some (rI (nI w)), none]) dX5_readList_15 (by decide) rfl ?_
  refine RD.iload_n (pc := 16) dX5_readList_16 rfl ?_
  refine RD.if_lt (pc := 17) 35 dX5_readList_17 (by decide) (fun c17 => absurd c17 (nI_pos (by omega))) (fun c17 => ?_)
  refine RD.iload_n (pc := 20) dX5_readList_20 rfl ?_
  refine RD.bipush (pc := 21) (v := 16) dX5_readList_21 (by decide) ?_
  refine RD.icmp_gt (pc := 23) 35 dX5_readList_23 (by decide) (fun c23 => absurd c23 (nI_nlt (a := 16) (b := w) hw (by decide))) (fun c23 => ?_)
  refine RD.iload_n (pc := 26) dX5_readList_26 rfl ?_
  refine RD.iload_n (pc := 27) dX5_readList_27 rfl ?_
  refine RD.iadd (pc := 28) dX5_readList_28 ?_
  refine RD.sipush (pc := 29) (v := 128) dX5_readList_29 (by decide) ?_
  refine RD.icmp_lt (pc := 32) 37 dX5_readList_32 (by decide) (fun c32 => ?_) (fun c32 => absurd (by rw [nI_add]; exact nI_lt (b := 128) hqw (by decide)) c32)
  refine RD.aload_n (pc := 37) dX5_readList_37 rfl ?_
  refine RD.getR (pc := 38) dX5_readList_38 flX5_21 ok0 rfl rfl ?_
  refine RD.cV0v (pc := 41) dX5_readList_41 mlX5_214 rfl ok4L rfl (c_clear K _ ok4L D) (leb rfl) ?_
  refine RD.iconst (pc := 44) (v := 1) dX5_readList_44 (by decide) ?_
  refine RD.istore (pc := 45) (ls' := [some (rR (0, 0, 0)), some (rR (2, i, 0)), some (rI (nI q)), some (rI (nI w)), some (rI 1)]) dX5_readList_45 (by decide) rfl ?_
  exact l_readList K d hi D hq hw hqw (w + 1) 0 (by omega) (by omega)

set_option maxRecDepth 20000 in
set_option maxHeartbeats 1000000 in
theorem c_readListN (K : EK) (d : Nat) {i : Nat} (hi : i < 8) (D : DT) (a : Int32) (h : ¬ rlOK D i a) : CF K mX5_readList (d + 2) [rR (0, 0, 0), rR (2, i, 0), rI a] D (some (rI 0)) D := by
  refine CF.of [some (rR (0, 0, 0)), some (rR (2, i, 0)), some (rI a), none, none] (by decide) (leb rfl) rfl ?_
  refine RD.iload_n (pc := 0) dX5_readList_0 rfl ?_
  refine RD.cS1 (pc := 1) dX5_readList_1 mlX5_102 (c_isPlace K _ D a) (leb rfl) ?_
  refine RD.if_ne (pc := 4) 9 dX5_readList_4 (by decide) (fun c4 => ?_) (fun c4 => ?_)
  · obtain ⟨q, hq, rfl⟩ := inR_t (N := 128) (by decide) (bI_1 c4)
    refine RD.aload_n (pc := 9) dX5_readList_9 rfl ?_
    refine RD.getR (pc := 10) dX5_readList_10 flX5_33 (ok2 hi) rfl rfl ?_
    refine RD.iload_n (pc := 13) dX5_readList_13 rfl ?_
    refine RD.iL (pc := 14) (n := 128) q (v := D (3, i, 0) q) rfl dX5_readList_14 (ok3 hi) rfl rfl hq (by decide) ?_
    refine RD.istore_n (pc := 15) (ls' := [some (rR (0, 0, 0)), some (rR (2, i, 0)), some (rI (nI q)), some (rI (D (3, i, 0) q)), none]) dX5_readList_15 (by decide) rfl ?_
    refine RD.iload_n (pc := 16) dX5_readList_16 rfl ?_
    refine RD.if_lt (pc := 17) 35 dX5_readList_17 (by decide) (fun c17 => ?_) (fun c17 => ?_)
    · refine RD.iconst (pc := 35) (v := 0) dX5_readList_35 (by decide) ?_
      refine RD.ireturn (pc := 36) dX5_readList_36 rfl rfl ?_
      exact ⟨rfl, rfl⟩
    · refine RD.iload_n (pc := 20) dX5_readList_20 rfl ?_
      refine RD.bipush (pc := 21) (v := 16) dX5_readList_21 (by decide) ?_
      refine RD.icmp_gt (pc := 23) 35 dX5_readList_23 (by decide) (fun c23 => ?_) (fun c23 => ?_)
      · refine RD.iconst (pc := 35) (v := 0) dX5_readList_35 (by decide) ?_
        refine RD.ireturn (pc := 36) dX5_readList_36 rfl rfl ?_
        exact ⟨rfl, rfl⟩
      · refine RD.iload_n (pc := 26) dX5_readList_26 rfl ?_
        refine RD.iload_n (pc := 27) dX5_readList_27 rfl ?_
        refine RD.iadd (pc := 28) dX5_readList_28 ?_
        refine RD.sipush (pc := 29) (v := 128) dX5_readList_29 (by decide) ?_
        refine RD.icmp_lt (pc := 32) 37 dX5_readList_32 (by decide) (fun c32 => ?_) (fun c32 => ?_)
        · exfalso
          obtain ⟨w, hw, hv⟩ := nI_of2 (nI_toInt (n := 16) (by decide)) c17 (i32_nlt c23)
          refine h ⟨q, w, hq, rfl, hv, hw, ?_⟩
          rw [hv, nI_add] at c32
          exact (nI_ltI (b := 128) (by omega) (by decide)).mp c32
        · refine RD.iconst (pc := 35) (v := 0) dX5_readList_35 (by decide) ?_
          refine RD.ireturn (pc := 36) dX5_readList_36 rfl rfl ?_
          exact ⟨rfl, rfl⟩
  · refine RD.iconst (pc := 7) (v := 0) dX5_readList_7 (by decide) ?_
    refine RD.ireturn (pc := 8) dX5_readList_8 rfl rfl ?_
    exact ⟨rfl, rfl⟩

set_option maxRecDepth 20000 in
set_option maxHeartbeats 1000000 in
theorem c_send0 (K : EK) (d : Nat) {i : Nat} (hi : i < 8) (D : DT) (v kd : Int32) (t : Int32) (h : inR t 8 = false) : CF K mX5_send (d + 2) [rR (0, 0, 0), rR (2, i, 0), rI t, rI v, rI kd] D (some (rI 1)) D := by
  refine CF.of [some (rR (0, 0, 0)), some (rR (2, i, 0)), some (rI t), some (rI v), some (rI kd)] (by decide) (leb rfl) rfl ?_
  refine RD.iload_n (pc := 0) dX5_send_0 rfl ?_
  refine RD.cS1 (pc := 1) dX5_send_1 mlX5_29 (c_isSlot K _ D t) (leb rfl) ?_
  refine RD.if_eq (pc := 4) 43 dX5_send_4 (by decide) (fun c4 => ?_) (fun c4 => absurd (bIout h) c4)
  refine RD.iconst (pc := 43) (v := 1) dX5_send_43 (by decide) ?_
  refine RD.ireturn (pc := 44) dX5_send_44 rfl rfl ?_
  exact ⟨rfl, rfl⟩

set_option maxRecDepth 20000 in
set_option maxHeartbeats 1000000 in
theorem c_send1 (K : EK) (d : Nat) {i : Nat} (hi : i < 8) (D : DT) (v kd : Int32) {t : Nat} (ht : t < 8) (h : subB (D (5, i, 0)) (D (5, t, 0)) = false) : CF K mX5_send (d + 2) [rR (0, 0, 0), rR (2, i, 0), rI (nI t), rI v, rI kd] D (some (rI 1)) D := by
  refine CF.of [some (rR (0, 0, 0)), some (rR (2, i, 0)), some (rI (nI t)), some (rI v), some (rI kd)] (by decide) (leb rfl) rfl ?_
  refine RD.iload_n (pc := 0) dX5_send_0 rfl ?_
  refine RD.cS1 (pc := 1) dX5_send_1 mlX5_29 (c_isSlot K _ D (nI t)) (leb rfl) ?_
  refine RD.if_eq (pc := 4) 43 dX5_send_4 (by decide) (fun c4 => absurd c4 (bIin (by decide) ht)) (fun c4 => ?_)
  refine RD.aload_n (pc := 7) dX5_send_7 rfl ?_
  refine RD.getR (pc := 8) dX5_send_8 flX5_46 (ok2 hi) rfl rfl ?_
  refine RD.aload_n (pc := 11) dX5_send_11 rfl ?_
  refine RD.getR (pc := 12) dX5_send_12 flX5_11 ok0 rfl rfl ?_
  refine RD.iload_n (pc := 15) dX5_send_15 rfl ?_
  refine RD.aald (pc := 16) t dX5_send_16 ok1 rfl rfl rfl ht (by decide) ?_
  refine RD.getR (pc := 17) dX5_send_17 flX5_46 (ok2 ht) rfl rfl ?_
  refine RD.cV1 (pc := 20) dX5_send_20 mlX5_140 rfl (ok4 hi (by decide)) rfl (c_isIn K _ (ok4 hi (by decide)) (ok4 ht (by decide)) D) (leb rfl) ?_
  refine RD.if_eq (pc := 23) 43 dX5_send_23 (by decide) (fun c23 => ?_) (fun c23 => absurd (by rw [h]; rfl) c23)
  refine RD.iconst (pc := 43) (v := 1) dX5_send_43 (by decide) ?_
  refine RD.ireturn (pc := 44) dX5_send_44 rfl rfl ?_
  exact ⟨rfl, rfl⟩

set_option maxRecDepth 20000 in
set_option maxHeartbeats 1000000 in
theorem c_send2 (K : EK) (d : Nat) {i : Nat} (hi : i < 8) (D : DT) (v kd : Int32) {t : Nat} (ht : t < 8) (h : subB (D (5, i, 0)) (D (5, t, 0)) = true) {p z : Nat} (hp : p < 8) (hf : D (6, t, 0) 1 = nI p) (hz : D (6, t, 0) 2 = nI z) (hz8 : z = 8) : CF K mX5_send (d + 2) [rR (0, 0, 0), rR (2, i, 0), rI (nI t), rI v, rI kd] D (some (rI 1)) D := by
  refine CF.of [some (rR (0, 0, 0)), some (rR (2, i, 0)), some (rI (nI t)), some (rI v), some (rI kd)] (by decide) (leb rfl) rfl ?_
  refine RD.iload_n (pc := 0) dX5_send_0 rfl ?_
  refine RD.cS1 (pc := 1) dX5_send_1 mlX5_29 (c_isSlot K _ D (nI t)) (leb rfl) ?_
  refine RD.if_eq (pc := 4) 43 dX5_send_4 (by decide) (fun c4 => absurd c4 (bIin (by decide) ht)) (fun c4 => ?_)
  refine RD.aload_n (pc := 7) dX5_send_7 rfl ?_
  refine RD.getR (pc := 8) dX5_send_8 flX5_46 (ok2 hi) rfl rfl ?_
  refine RD.aload_n (pc := 11) dX5_send_11 rfl ?_
  refine RD.getR (pc := 12) dX5_send_12 flX5_11 ok0 rfl rfl ?_
  refine RD.iload_n (pc := 15) dX5_send_15 rfl ?_
  refine RD.aald (pc := 16) t dX5_send_16 ok1 rfl rfl rfl ht (by decide) ?_
  refine RD.getR (pc := 17) dX5_send_17 flX5_46 (ok2 ht) rfl rfl ?_
  refine RD.cV1 (pc := 20) dX5_send_20 mlX5_140 rfl (ok4 hi (by decide)) rfl (c_isIn K _ (ok4 hi (by decide)) (ok4 ht (by decide)) D) (leb rfl) ?_
  refine RD.if_eq (pc := 23) 43 dX5_send_23 (by decide) (fun c23 => absurd c23 (by rw [h]; decide)) (fun c23 => ?_)
  refine RD.aload_n (pc := 26) dX5_send_26 rfl ?_
  refine RD.getR (pc := 27) dX5_send_27 flX5_11 ok0 rfl rfl ?_
  refine RD.iload_n (pc := 30) dX5_send_30 rfl ?_
  refine RD.aald (pc := 31) t dX5_send_31 ok1 rfl rfl rfl ht (by decide) ?_
  refine RD.getR (pc := 32) dX5_send_32 flX5_81 (ok2 ht) rfl rfl ?_
  refine RD.aload_n (pc := 35) dX5_send_35 rfl ?_
  refine RD.iload_n (pc := 36) dX5_send_36 rfl ?_
  refine RD.iload (pc := 37) dX5_send_37 rfl ?_
  refine RD.cV3 (pc := 39) dX5_send_39 mlX5_85 rfl (ok6 ht) rfl (c_putFull K _ ht hi D v kd hp hf hz hz8) (leb rfl) ?_
  refine RD.pop (pc := 42) dX5_send_42 ?_
  refine RD.iconst (pc := 43) (v := 1) dX5_send_43 (by decide) ?_
  refine RD.ireturn (pc := 44) dX5_send_44 rfl rfl ?_
  exact ⟨rfl, rfl⟩

set_option maxRecDepth 20000 in
set_option maxHeartbeats 1000000 in
theorem c_send3 (K : EK) (d : Nat) {i : Nat} (hi : i < 8) (D : DT) (v kd : Int32) {t : Nat} (ht : t < 8) (h : subB (D (5, i, 0)) (D (5, t, 0)) = true) {p z : Nat} (hp : p < 8) (hf : D (6, t, 0) 1 = nI p) (hz : D (6, t, 0) 2 = nI z) (hz8 : z < 8) : CF K mX5_send (d + 2) [rR (0, 0, 0), rR (2, i, 0), rI (nI t), rI v, rI kd] D (some (rI 1)) (putF D t i v kd p z) := by
  refine CF.of [some (rR (0, 0, 0)), some (rR (2, i, 0)), some (rI (nI t)), some (rI v), some (rI kd)] (by decide) (leb rfl) rfl ?_
  refine RD.iload_n (pc := 0) dX5_send_0 rfl ?_
  refine RD.cS1 (pc := 1) dX5_send_1 mlX5_29 (c_isSlot K _ D (nI t)) (leb rfl) ?_
  refine RD.if_eq (pc := 4) 43 dX5_send_4 (by decide) (fun c4 => absurd c4 (bIin (by decide) ht)) (fun c4 => ?_)
  refine RD.aload_n (pc := 7) dX5_send_7 rfl ?_
  refine RD.getR (pc := 8) dX5_send_8 flX5_46 (ok2 hi) rfl rfl ?_
  refine RD.aload_n (pc := 11) dX5_send_11 rfl ?_
  refine RD.getR (pc := 12) dX5_send_12 flX5_11 ok0 rfl rfl ?_
  refine RD.iload_n (pc := 15) dX5_send_15 rfl ?_
  refine RD.aald (pc := 16) t dX5_send_16 ok1 rfl rfl rfl ht (by decide) ?_
  refine RD.getR (pc := 17) dX5_send_17 flX5_46 (ok2 ht) rfl rfl ?_
  refine RD.cV1 (pc := 20) dX5_send_20 mlX5_140 rfl (ok4 hi (by decide)) rfl (c_isIn K _ (ok4 hi (by decide)) (ok4 ht (by decide)) D) (leb rfl) ?_
  refine RD.if_eq (pc := 23) 43 dX5_send_23 (by decide) (fun c23 => absurd c23 (by rw [h]; decide)) (fun c23 => ?_)
  refine RD.aload_n (pc := 26) dX5_send_26 rfl ?_
  refine RD.getR (pc := 27) dX5_send_27 flX5_11 ok0 rfl rfl ?_
  refine RD.iload_n (pc := 30) dX5_send_30 rfl ?_
  refine RD.aald (pc := 31) t dX5_send_31 ok1 rfl rfl rfl ht (by decide) ?_
  refine RD.getR (pc := 32) dX5_send_32 flX5_81 (ok2 ht) rfl rfl ?_
  refine RD.aload_n (pc := 35) dX5_send_35 rfl ?_
  refine RD.iload_n (pc := 36) dX5_send_36 rfl ?_
  refine RD.iload (pc := 37) dX5_send_37 rfl ?_
  refine RD.cV3 (pc := 39) dX5_send_39 mlX5_85 rfl (ok6 ht) rfl (c_put K _ ht hi D v kd hp hf hz hz8) (leb rfl) ?_
  refine RD.pop (pc := 42) dX5_send_42 ?_
  refine RD.iconst (pc := 43) (v := 1) dX5_send_43 (by decide) ?_
  refine RD.ireturn (pc := 44) dX5_send_44 rfl rfl ?_
  exact ⟨rfl, rfl⟩

set_option maxRecDepth 20000 in
set_option maxHeartbeats 1000000 in
theorem c_passN0 (K : EK) (d : Nat) {i : Nat} (hi : i < 8) (D : DT) (to t : Int32) (h : hasF (D (5, i, 1)) t = false) : CF K mX5_pass (d + 3) [rR (0, 0, 0), rR (2, i, 0), rI to, rI t, rI 0] D (some (rI 0)) D := by
  refine CF.of [some (rR (0, 0, 0)), some (rR (2, i, 0)), some (rI to), some (rI t), some (rI 0), none] (by decide) (leb rfl) rfl ?_
  refine RD.iload (pc := 0) dX5_pass_0 rfl ?_
  refine RD.cS1 (pc := 2) dX5_pass_2 mlX5_220 (c_kindOf0 K _ D) (leb rfl) ?_
  refine RD.istore (pc := 5) (ls' := [some (rR (0, 0, 0)), some (rR (2, i, 0)), some (rI to), some (rI t), some (rI 0), some (rI 0)]) dX5_pass_5 (by decide) rfl ?_
  refine RD.aload_n (pc := 7) dX5_pass_7 rfl ?_
  refine RD.iload (pc := 8) dX5_pass_8 rfl ?_
  refine RD.cV1 (pc := 10) dX5_pass_10 mlX5_53 rfl (ok2 hi) rfl (c_cap0 K _ hi D) (leb rfl) ?_
  refine RD.iload_n (pc := 13) dX5_pass_13 rfl ?_
  refine RD.cV1 (pc := 14) dX5_pass_14 mlX5_223 rfl (ok4 hi (by decide)) rfl (c_has K _ (ok4 hi (by decide)) D t) (leb rfl) ?_
  refine RD.if_ne (pc := 17) 22 dX5_pass_17 (by decide) (fun c17 => absurd (by rw [h]; rfl) c17) (fun c17 => ?_)
  refine RD.iconst (pc := 20) (v := 0) dX5_pass_20 (by decide) ?_
  refine RD.ireturn (pc := 21) dX5_pass_21 rfl rfl ?_
  exact ⟨rfl, rfl⟩

set_option maxRecDepth 20000 in
set_option maxHeartbeats 1000000 in
theorem c_pass0 (K : EK) (d : Nat) {i : Nat} (hi : i < 8) (D : DT) (to t : Int32) (h : hasF (D (5, i, 1)) t = true) {D2 : DT} (hs : CF K mX5_send (d + 2) [rR (0, 0, 0), rR (2, i, 0), rI to, rI t, rI 0] D (some (rI 1)) D2) : CF K mX5_pass (d + 3) [rR (0, 0, 0), rR (2, i, 0), rI to, rI t, rI 0] D (some (rI 1)) D2 := by
  refine CF.of [some (rR (0, 0, 0)), some (rR (2, i, 0)), some (rI to), some (rI t), some (rI 0), none] (by decide) (leb rfl) rfl ?_
  refine RD.iload (pc := 0) dX5_pass_0 rfl ?_
  refine RD.cS1 (pc := 2) dX5_pass_2 mlX5_220 (c_kindOf0 K _ D) (leb rfl) ?_
  refine RD.istore (pc := 5) (ls' := [some (rR (0, 0, 0)), some (rR (2, i, 0)), some (rI to), some (rI t), some (rI 0), some (rI 0)]) dX5_pass_5 (by decide) rfl ?_
  refine RD.aload_n (pc := 7) dX5_pass_7 rfl ?_
  refine RD.iload (pc := 8) dX5_pass_8 rfl ?_
  refine RD.cV1 (pc := 10) dX5_pass_10 mlX5_53 rfl (ok2 hi) rfl (c_cap0 K _ hi D) (leb rfl) ?_
  refine RD.iload_n (pc := 13) dX5_pass_13 rfl ?_
  refine RD.cV1 (pc := 14) dX5_pass_14 mlX5_223 rfl (ok4 hi (by decide)) rfl (c_has K _ (ok4 hi (by decide)) D t) (leb rfl) ?_
  refine RD.if_ne (pc := 17) 22 dX5_pass_17 (by decide) (fun c17 => ?_) (fun c17 => absurd c17 (by rw [h]; decide))
  refine RD.aload_n (pc := 22) dX5_pass_22 rfl ?_
  refine RD.aload_n (pc := 23) dX5_pass_23 rfl ?_
  refine RD.iload_n (pc := 24) dX5_pass_24 rfl ?_
  refine RD.iload_n (pc := 25) dX5_pass_25 rfl ?_
  refine RD.iload (pc := 26) dX5_pass_26 rfl ?_
  refine RD.cV4 (pc := 28) dX5_pass_28 mlX5_188 rfl ok0 rfl hs (leb rfl) ?_
  refine RD.ireturn (pc := 31) dX5_pass_31 rfl rfl ?_
  exact ⟨rfl, rfl⟩

set_option maxRecDepth 20000 in
set_option maxHeartbeats 1000000 in
theorem c_passN1 (K : EK) (d : Nat) {i : Nat} (hi : i < 8) (D : DT) {c : Int32} (hc0 : ¬ c = 0) (to t : Int32) (h : hasF (D (5, i, 2)) t = false) : CF K mX5_pass (d + 3) [rR (0, 0, 0), rR (2, i, 0), rI to, rI t, rI c] D (some (rI 0)) D := by
  refine CF.of [some (rR (0, 0, 0)), some (rR (2, i, 0)), some (rI to), some (rI t), some (rI c), none] (by decide) (leb rfl) rfl ?_
  refine RD.iload (pc := 0) dX5_pass_0 rfl ?_
  refine RD.cS1 (pc := 2) dX5_pass_2 mlX5_220 (c_kindOf1 K _ D hc0) (leb rfl) ?_
  refine RD.istore (pc := 5) (ls' := [some (rR (0, 0, 0)), some (rR (2, i, 0)), some (rI to), some (rI t), some (rI c), some (rI 1)]) dX5_pass_5 (by decide) rfl ?_
  refine RD.aload_n (pc := 7) dX5_pass_7 rfl ?_
  refine RD.iload (pc := 8) dX5_pass_8 rfl ?_
  refine RD.cV1 (pc := 10) dX5_pass_10 mlX5_53 rfl (ok2 hi) rfl (c_cap1 K _ hi D (by decide)) (leb rfl) ?_
  refine RD.iload_n (pc := 13) dX5_pass_13 rfl ?_
  refine RD.cV1 (pc := 14) dX5_pass_14 mlX5_223 rfl (ok4 hi (by decide)) rfl (c_has K _ (ok4 hi (by decide)) D t) (leb rfl) ?_
  refine RD.if_ne (pc := 17) 22 dX5_pass_17 (by decide) (fun c17 => absurd (by rw [h]; rfl) c17) (fun c17 => ?_)
  refine RD.iconst (pc := 20) (v := 0) dX5_pass_20 (by decide) ?_
  refine RD.ireturn (pc := 21) dX5_pass_21 rfl rfl ?_
  exact ⟨rfl, rfl⟩

set_option maxRecDepth 20000 in
set_option maxHeartbeats 1000000 in
theorem c_pass1 (K : EK) (d : Nat) {i : Nat} (hi : i < 8) (D : DT) {c : Int32} (hc0 : ¬ c = 0) (to t : Int32) (h : hasF (D (5, i, 2)) t = true) {D2 : DT} (hs : CF K mX5_send (d + 2) [rR (0, 0, 0), rR (2, i, 0), rI to, rI t, rI 1] D (some (rI 1)) D2) : CF K mX5_pass (d + 3) [rR (0, 0, 0), rR (2, i, 0), rI to, rI t, rI c] D (some (rI 1)) D2 := by
  refine CF.of [some (rR (0, 0, 0)), some (rR (2, i, 0)), some (rI to), some (rI t), some (rI c), none] (by decide) (leb rfl) rfl ?_
  refine RD.iload (pc := 0) dX5_pass_0 rfl ?_
  refine RD.cS1 (pc := 2) dX5_pass_2 mlX5_220 (c_kindOf1 K _ D hc0) (leb rfl) ?_
  refine RD.istore (pc := 5) (ls' := [some (rR (0, 0, 0)), some (rR (2, i, 0)), some (rI to), some (rI t), some (rI c), some (rI 1)]) dX5_pass_5 (by decide) rfl ?_
  refine RD.aload_n (pc := 7) dX5_pass_7 rfl ?_
  refine RD.iload (pc := 8) dX5_pass_8 rfl ?_
  refine RD.cV1 (pc := 10) dX5_pass_10 mlX5_53 rfl (ok2 hi) rfl (c_cap1 K _ hi D (by decide)) (leb rfl) ?_
  refine RD.iload_n (pc := 13) dX5_pass_13 rfl ?_
  refine RD.cV1 (pc := 14) dX5_pass_14 mlX5_223 rfl (ok4 hi (by decide)) rfl (c_has K _ (ok4 hi (by decide)) D t) (leb rfl) ?_
  refine RD.if_ne (pc := 17) 22 dX5_pass_17 (by decide) (fun c17 => ?_) (fun c17 => absurd c17 (by rw [h]; decide))
  refine RD.aload_n (pc := 22) dX5_pass_22 rfl ?_
  refine RD.aload_n (pc := 23) dX5_pass_23 rfl ?_
  refine RD.iload_n (pc := 24) dX5_pass_24 rfl ?_
  refine RD.iload_n (pc := 25) dX5_pass_25 rfl ?_
  refine RD.iload (pc := 26) dX5_pass_26 rfl ?_
  refine RD.cV4 (pc := 28) dX5_pass_28 mlX5_188 rfl ok0 rfl hs (leb rfl) ?_
  refine RD.ireturn (pc := 31) dX5_pass_31 rfl rfl ?_
  exact ⟨rfl, rfl⟩

set_option maxRecDepth 20000 in
set_option maxHeartbeats 1000000 in
theorem c_readN (K : EK) (d : Nat) {i : Nat} (hi : i < 8) (D : DT) (k e : Int32) (h : fcB D k e = false) : CF K mX5_read (d + 2) [rR (0, 0, 0), rR (2, i, 0), rI k, rI e] D (some (rI 0)) D := by
  refine CF.of [some (rR (0, 0, 0)), some (rR (2, i, 0)), some (rI k), some (rI e)] (by decide) (leb rfl) rfl ?_
  refine RD.aload_n (pc := 0) dX5_read_0 rfl ?_
  refine RD.iload_n (pc := 1) dX5_read_1 rfl ?_
  refine RD.iload_n (pc := 2) dX5_read_2 rfl ?_
  refine RD.cV2 (pc := 3) dX5_read_3 mlX5_74 rfl ok0 rfl (c_isFileCell K _ D k e) (leb rfl) ?_
  refine RD.if_eq (pc := 6) 27 dX5_read_6 (by decide) (fun c6 => ?_) (fun c6 => absurd (by rw [h]; rfl) c6)
  refine RD.iconst (pc := 27) (v := 0) dX5_read_27 (by decide) ?_
  refine RD.ireturn (pc := 28) dX5_read_28 rfl rfl ?_
  exact ⟨rfl, rfl⟩

set_option maxRecDepth 20000 in
set_option maxHeartbeats 1000000 in
theorem c_read0 (K : EK) (d : Nat) {i : Nat} (hi : i < 8) (D : DT) {n e : Nat} (hn : n < 64) (he : e < 8) (h : thr D n = true) (h2 : subB (D (5, n / 8, 11 + n % 8)) (D (5, i, 0)) = false) : CF K mX5_read (d + 2) [rR (0, 0, 0), rR (2, i, 0), rI (nI n), rI (nI e)] D (some (rI 0)) D := by
  refine CF.of [some (rR (0, 0, 0)), some (rR (2, i, 0)), some (rI (nI n)), some (rI (nI e))] (by decide) (leb rfl) rfl ?_
  refine RD.aload_n (pc := 0) dX5_read_0 rfl ?_
  refine RD.iload_n (pc := 1) dX5_read_1 rfl ?_
  refine RD.iload_n (pc := 2) dX5_read_2 rfl ?_
  refine RD.cV2 (pc := 3) dX5_read_3 mlX5_74 rfl ok0 rfl (c_isFileCell K _ D (nI n) (nI e)) (leb rfl) ?_
  refine RD.if_eq (pc := 6) 27 dX5_read_6 (by decide) (fun c6 => absurd c6 (by rw [fcB_nI hn he, h]; decide)) (fun c6 => ?_)
  refine RD.aload_n (pc := 9) dX5_read_9 rfl ?_
  refine RD.iload_n (pc := 10) dX5_read_10 rfl ?_
  refine RD.cV1 (pc := 11) dX5_read_11 mlX5_60 rfl ok0 rfl (c_fileAt K _ D hn) (leb rfl) ?_
  refine RD.getR (pc := 14) dX5_read_14 flX5_70 (ok12 (by omega) (by omega)) rfl rfl ?_
  refine RD.aload_n (pc := 17) dX5_read_17 rfl ?_
  refine RD.getR (pc := 18) dX5_read_18 flX5_46 (ok2 hi) rfl rfl ?_
  refine RD.cV1 (pc := 21) dX5_read_21 mlX5_140 rfl (ok4 (by omega) (by omega)) rfl (c_isIn K _ (ok4 (by omega) (by omega)) (ok4 hi (by decide)) D) (leb rfl) ?_
  refine RD.if_ne (pc := 24) 29 dX5_read_24 (by decide) (fun c24 => absurd (by rw [h2]; rfl) c24) (fun c24 => ?_)
  refine RD.iconst (pc := 27) (v := 0) dX5_read_27 (by decide) ?_
  refine RD.ireturn (pc := 28) dX5_read_28 rfl rfl ?_
  exact ⟨rfl, rfl⟩

set_option maxRecDepth 20000 in
set_option maxHeartbeats 1000000 in
theorem c_read1 (K : EK) (d : Nat) {i : Nat} (hi : i < 8) (D : DT) {n e : Nat} (hn : n < 64) (he : e < 8) (h : thr D n = true) (h2 : subB (D (5, n / 8, 11 + n % 8)) (D (5, i, 0)) = true) : CF K mX5_read (d + 2) [rR (0, 0, 0), rR (2, i, 0), rI (nI n), rI (nI e)] D (some (rI 1)) (up D (3, i, 0) 120 (D (13, n / 8, n % 8) e)) := by
  refine CF.of [some (rR (0, 0, 0)), some (rR (2, i, 0)), some (rI (nI n)), some (rI (nI e))] (by decide) (leb rfl) rfl ?_
  refine RD.aload_n (pc := 0) dX5_read_0 rfl ?_
  refine RD.iload_n (pc := 1) dX5_read_1 rfl ?_
  refine RD.iload_n (pc := 2) dX5_read_2 rfl ?_
  refine RD.cV2 (pc := 3) dX5_read_3 mlX5_74 rfl ok0 rfl (c_isFileCell K _ D (nI n) (nI e)) (leb rfl) ?_
  refine RD.if_eq (pc := 6) 27 dX5_read_6 (by decide) (fun c6 => absurd c6 (by rw [fcB_nI hn he, h]; decide)) (fun c6 => ?_)
  refine RD.aload_n (pc := 9) dX5_read_9 rfl ?_
  refine RD.iload_n (pc := 10) dX5_read_10 rfl ?_
  refine RD.cV1 (pc := 11) dX5_read_11 mlX5_60 rfl ok0 rfl (c_fileAt K _ D hn) (leb rfl) ?_
  refine RD.getR (pc := 14) dX5_read_14 flX5_70 (ok12 (by omega) (by omega)) rfl rfl ?_
  refine RD.aload_n (pc := 17) dX5_read_17 rfl ?_
  refine RD.getR (pc := 18) dX5_read_18 flX5_46 (ok2 hi) rfl rfl ?_
  refine RD.cV1 (pc := 21) dX5_read_21 mlX5_140 rfl (ok4 (by omega) (by omega)) rfl (c_isIn K _ (ok4 (by omega) (by omega)) (ok4 hi (by decide)) D) (leb rfl) ?_
  refine RD.if_ne (pc := 24) 29 dX5_read_24 (by decide) (fun c24 => ?_) (fun c24 => absurd c24 (by rw [h2]; decide))
  refine RD.aload_n (pc := 29) dX5_read_29 rfl ?_
  refine RD.getR (pc := 30) dX5_read_30 flX5_33 (ok2 hi) rfl rfl ?_
  refine RD.bipush (pc := 33) (v := 120) dX5_read_33 (by decide) ?_
  refine RD.aload_n (pc := 35) dX5_read_35 rfl ?_
  refine RD.iload_n (pc := 36) dX5_read_36 rfl ?_
  refine RD.cV1 (pc := 37) dX5_read_37 mlX5_60 rfl ok0 rfl (c_fileAt K _ D hn) (leb rfl) ?_
  refine RD.getR (pc := 40) dX5_read_40 flX5_78 (ok12 (by omega) (by omega)) rfl rfl ?_
  refine RD.iload_n (pc := 43) dX5_read_43 rfl ?_
  refine RD.iL (pc := 44) (n := 8) e (v := D (13, n / 8, n % 8) e) rfl dX5_read_44 (ok13 (by omega) (by omega)) rfl rfl he (by decide) ?_
  refine RD.iast (pc := 45) (n := 128) 120 dX5_read_45 (ok3 hi) rfl rfl (by decide) (by decide) ?_
  refine RD.iconst (pc := 46) (v := 1) dX5_read_46 (by decide) ?_
  refine RD.ireturn (pc := 47) dX5_read_47 rfl rfl ?_
  exact ⟨rfl, rfl⟩

set_option maxRecDepth 20000 in
set_option maxHeartbeats 1000000 in
theorem c_writeN (K : EK) (d : Nat) {i : Nat} (hi : i < 8) (D : DT) (k e v : Int32) (h : fcB D k e = false) : CF K mX5_write (d + 2) [rR (0, 0, 0), rR (2, i, 0), rI k, rI e, rI v] D (some (rI 1)) D := by
  refine CF.of [some (rR (0, 0, 0)), some (rR (2, i, 0)), some (rI k), some (rI e), some (rI v)] (by decide) (leb rfl) rfl ?_
  refine RD.aload_n (pc := 0) dX5_write_0 rfl ?_
  refine RD.iload_n (pc := 1) dX5_write_1 rfl ?_
  refine RD.iload_n (pc := 2) dX5_write_2 rfl ?_
  refine RD.cV2 (pc := 3) dX5_write_3 mlX5_74 rfl ok0 rfl (c_isFileCell K _ D k e) (leb rfl) ?_
  refine RD.if_eq (pc := 6) 39 dX5_write_6 (by decide) (fun c6 => ?_) (fun c6 => absurd (by rw [h]; rfl) c6)
  refine RD.iconst (pc := 39) (v := 1) dX5_write_39 (by decide) ?_
  refine RD.ireturn (pc := 40) dX5_write_40 rfl rfl ?_
  exact ⟨rfl, rfl⟩

set_option maxRecDepth 20000 in
set_option maxHeartbeats 1000000 in
theorem c_write0 (K : EK) (d : Nat) {i : Nat} (hi : i < 8) (D : DT) {n e : Nat} (hn : n < 64) (he : e < 8) (h : thr D n = true) (v : Int32) (h2 : subB (D (5, i, 0)) (D (5, n / 8, 11 + n % 8)) = false) : CF K mX5_write (d + 2) [rR (0, 0, 0), rR (2, i, 0), rI (nI n), rI (nI e), rI v] D (some (rI 1)) D := by
  refine CF.of [some (rR (0, 0, 0)), some (rR (2, i, 0)), some (rI (nI n)), some (rI (nI e)), some (rI v)] (by decide) (leb rfl) rfl ?_
  refine RD.aload_n (pc := 0) dX5_write_0 rfl ?_
  refine RD.iload_n (pc := 1) dX5_write_1 rfl ?_
  refine RD.iload_n (pc := 2) dX5_write_2 rfl ?_
  refine RD.cV2 (pc := 3) dX5_write_3 mlX5_74 rfl ok0 rfl (c_isFileCell K _ D (nI n) (nI e)) (leb rfl) ?_
  refine RD.if_eq (pc := 6) 39 dX5_write_6 (by decide) (fun c6 => absurd c6 (by rw [fcB_nI hn he, h]; decide)) (fun c6 => ?_)
  refine RD.aload_n (pc := 9) dX5_write_9 rfl ?_
  refine RD.getR (pc := 10) dX5_write_10 flX5_46 (ok2 hi) rfl rfl ?_
  refine RD.aload_n (pc := 13) dX5_write_13 rfl ?_
  refine RD.iload_n (pc := 14) dX5_write_14 rfl ?_
  refine RD.cV1 (pc := 15) dX5_write_15 mlX5_60 rfl ok0 rfl (c_fileAt K _ D hn) (leb rfl) ?_
  refine RD.getR (pc := 18) dX5_write_18 flX5_70 (ok12 (by omega) (by omega)) rfl rfl ?_
  refine RD.cV1 (pc := 21) dX5_write_21 mlX5_140 rfl (ok4 hi (by decide)) rfl (c_isIn K _ (ok4 hi (by decide)) (ok4 (by omega) (by omega)) D) (leb rfl) ?_
  refine RD.if_eq (pc := 24) 39 dX5_write_24 (by decide) (fun c24 => ?_) (fun c24 => absurd (by rw [h2]; rfl) c24)
  refine RD.iconst (pc := 39) (v := 1) dX5_write_39 (by decide) ?_
  refine RD.ireturn (pc := 40) dX5_write_40 rfl rfl ?_
  exact ⟨rfl, rfl⟩

set_option maxRecDepth 20000 in
set_option maxHeartbeats 1000000 in
theorem c_write1 (K : EK) (d : Nat) {i : Nat} (hi : i < 8) (D : DT) {n e : Nat} (hn : n < 64) (he : e < 8) (h : thr D n = true) (v : Int32) (h2 : subB (D (5, i, 0)) (D (5, n / 8, 11 + n % 8)) = true) : CF K mX5_write (d + 2) [rR (0, 0, 0), rR (2, i, 0), rI (nI n), rI (nI e), rI v] D (some (rI 1)) (up D (13, n / 8, n % 8) e v) := by
  refine CF.of [some (rR (0, 0, 0)), some (rR (2, i, 0)), some (rI (nI n)), some (rI (nI e)), some (rI v)] (by decide) (leb rfl) rfl ?_
  refine RD.aload_n (pc := 0) dX5_write_0 rfl ?_
  refine RD.iload_n (pc := 1) dX5_write_1 rfl ?_
  refine RD.iload_n (pc := 2) dX5_write_2 rfl ?_
  refine RD.cV2 (pc := 3) dX5_write_3 mlX5_74 rfl ok0 rfl (c_isFileCell K _ D (nI n) (nI e)) (leb rfl) ?_
  refine RD.if_eq (pc := 6) 39 dX5_write_6 (by decide) (fun c6 => absurd c6 (by rw [fcB_nI hn he, h]; decide)) (fun c6 => ?_)
  refine RD.aload_n (pc := 9) dX5_write_9 rfl ?_
  refine RD.getR (pc := 10) dX5_write_10 flX5_46 (ok2 hi) rfl rfl ?_
  refine RD.aload_n (pc := 13) dX5_write_13 rfl ?_
  refine RD.iload_n (pc := 14) dX5_write_14 rfl ?_
  refine RD.cV1 (pc := 15) dX5_write_15 mlX5_60 rfl ok0 rfl (c_fileAt K _ D hn) (leb rfl) ?_
  refine RD.getR (pc := 18) dX5_write_18 flX5_70 (ok12 (by omega) (by omega)) rfl rfl ?_
  refine RD.cV1 (pc := 21) dX5_write_21 mlX5_140 rfl (ok4 hi (by decide)) rfl (c_isIn K _ (ok4 hi (by decide)) (ok4 (by omega) (by omega)) D) (leb rfl) ?_
  refine RD.if_eq (pc := 24) 39 dX5_write_24 (by decide) (fun c24 => absurd c24 (by rw [h2]; decide)) (fun c24 => ?_)
  refine RD.aload_n (pc := 27) dX5_write_27 rfl ?_
  refine RD.iload_n (pc := 28) dX5_write_28 rfl ?_
  refine RD.cV1 (pc := 29) dX5_write_29 mlX5_60 rfl ok0 rfl (c_fileAt K _ D hn) (leb rfl) ?_
  refine RD.getR (pc := 32) dX5_write_32 flX5_78 (ok12 (by omega) (by omega)) rfl rfl ?_
  refine RD.iload_n (pc := 35) dX5_write_35 rfl ?_
  refine RD.iload (pc := 36) dX5_write_36 rfl ?_
  refine RD.iast (pc := 38) (n := 8) e dX5_write_38 (ok13 (by omega) (by omega)) rfl rfl he (by decide) ?_
  refine RD.iconst (pc := 39) (v := 1) dX5_write_39 (by decide) ?_
  refine RD.ireturn (pc := 40) dX5_write_40 rfl rfl ?_
  exact ⟨rfl, rfl⟩
