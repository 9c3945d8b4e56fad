set_option maxRecDepth 20000 in
set_option maxHeartbeats 1000000 in
theorem c_isSlot (K : EK) (d : Nat) (D : DT) (t : Int32) : CF K mX5_isSlot d [rI t] D (some (rI (bI (inR t 8)))) D := by
  refine CF.of [some (rI t)] (by decide) (leb rfl) rfl ?_
  refine RD.iload_n (pc := 0) dX5_isSlot_0 rfl ?_
  refine RD.if_lt (pc := 1) 14 dX5_isSlot_1 (by decide) (fun c1 => ?_) (fun c1 => ?_)
  · refine RD.iconst (pc := 14) (v := 0) dX5_isSlot_14 (by decide) ?_
    refine RD.ireturn (pc := 15) dX5_isSlot_15 rfl rfl ?_
    exact ⟨by rw [inR_neg (N := 8) c1]; rfl, rfl⟩
  · refine RD.iload_n (pc := 4) dX5_isSlot_4 rfl ?_
    refine RD.bipush (pc := 5) (v := 8) dX5_isSlot_5 (by decide) ?_
    refine RD.icmp_ge (pc := 7) 14 dX5_isSlot_7 (by decide) (fun c7 => ?_) (fun c7 => ?_)
    · refine RD.iconst (pc := 14) (v := 0) dX5_isSlot_14 (by decide) ?_
      refine RD.ireturn (pc := 15) dX5_isSlot_15 rfl rfl ?_
      exact ⟨by rw [inR_big (N := 8) c7]; rfl, rfl⟩
    · refine RD.iconst (pc := 10) (v := 1) dX5_isSlot_10 (by decide) ?_
      refine RD.goto (pc := 11) 15 dX5_isSlot_11 (by decide) ?_
      refine RD.ireturn (pc := 15) dX5_isSlot_15 rfl rfl ?_
      exact ⟨by rw [inR_in (N := 8) c1 c7]; rfl, rfl⟩

set_option maxRecDepth 20000 in
set_option maxHeartbeats 1000000 in
theorem c_isPlace (K : EK) (d : Nat) (D : DT) (t : Int32) : CF K mX5_isPlace d [rI t] D (some (rI (bI (inR t 128)))) D := by
  refine CF.of [some (rI t)] (by decide) (leb rfl) rfl ?_
  refine RD.iload_n (pc := 0) dX5_isPlace_0 rfl ?_
  refine RD.if_lt (pc := 1) 15 dX5_isPlace_1 (by decide) (fun c1 => ?_) (fun c1 => ?_)
  · refine RD.iconst (pc := 15) (v := 0) dX5_isPlace_15 (by decide) ?_
    refine RD.ireturn (pc := 16) dX5_isPlace_16 rfl rfl ?_
    exact ⟨by rw [inR_neg (N := 128) c1]; rfl, rfl⟩
  · refine RD.iload_n (pc := 4) dX5_isPlace_4 rfl ?_
    refine RD.sipush (pc := 5) (v := 128) dX5_isPlace_5 (by decide) ?_
    refine RD.icmp_ge (pc := 8) 15 dX5_isPlace_8 (by decide) (fun c8 => ?_) (fun c8 => ?_)
    · refine RD.iconst (pc := 15) (v := 0) dX5_isPlace_15 (by decide) ?_
      refine RD.ireturn (pc := 16) dX5_isPlace_16 rfl rfl ?_
      exact ⟨by rw [inR_big (N := 128) c8]; rfl, rfl⟩
    · refine RD.iconst (pc := 11) (v := 1) dX5_isPlace_11 (by decide) ?_
      refine RD.goto (pc := 12) 16 dX5_isPlace_12 (by decide) ?_
      refine RD.ireturn (pc := 16) dX5_isPlace_16 rfl rfl ?_
      exact ⟨by rw [inR_in (N := 128) c1 c8]; rfl, rfl⟩

set_option maxRecDepth 20000 in
set_option maxHeartbeats 1000000 in
theorem c_isTag (K : EK) (d : Nat) (D : DT) (t : Int32) : CF K mX5_isTag d [rI t] D (some (rI (bI (inR t 256)))) D := by
  refine CF.of [some (rI t)] (by decide) (leb rfl) rfl ?_
  refine RD.iload_n (pc := 0) dX5_isTag_0 rfl ?_
  refine RD.if_lt (pc := 1) 15 dX5_isTag_1 (by decide) (fun c1 => ?_) (fun c1 => ?_)
  · refine RD.iconst (pc := 15) (v := 0) dX5_isTag_15 (by decide) ?_
    refine RD.ireturn (pc := 16) dX5_isTag_16 rfl rfl ?_
    exact ⟨by rw [inR_neg (N := 256) c1]; rfl, rfl⟩
  · refine RD.iload_n (pc := 4) dX5_isTag_4 rfl ?_
    refine RD.sipush (pc := 5) (v := 256) dX5_isTag_5 (by decide) ?_
    refine RD.icmp_ge (pc := 8) 15 dX5_isTag_8 (by decide) (fun c8 => ?_) (fun c8 => ?_)
    · refine RD.iconst (pc := 15) (v := 0) dX5_isTag_15 (by decide) ?_
      refine RD.ireturn (pc := 16) dX5_isTag_16 rfl rfl ?_
      exact ⟨by rw [inR_big (N := 256) c8]; rfl, rfl⟩
    · refine RD.iconst (pc := 11) (v := 1) dX5_isTag_11 (by decide) ?_
      refine RD.goto (pc := 12) 16 dX5_isTag_12 (by decide) ?_
      refine RD.ireturn (pc := 16) dX5_isTag_16 rfl rfl ?_
      exact ⟨by rw [inR_in (N := 256) c1 c8]; rfl, rfl⟩

set_option maxRecDepth 20000 in
set_option maxHeartbeats 1000000 in
theorem c_isFile (K : EK) (d : Nat) (D : DT) (t : Int32) : CF K mX5_isFile d [rI t] D (some (rI (bI (inR t 64)))) D := by
  refine CF.of [some (rI t)] (by decide) (leb rfl) rfl ?_
  refine RD.iload_n (pc := 0) dX5_isFile_0 rfl ?_
  refine RD.if_lt (pc := 1) 14 dX5_isFile_1 (by decide) (fun c1 => ?_) (fun c1 => ?_)
  · refine RD.iconst (pc := 14) (v := 0) dX5_isFile_14 (by decide) ?_
    refine RD.ireturn (pc := 15) dX5_isFile_15 rfl rfl ?_
    exact ⟨by rw [inR_neg (N := 64) c1]; rfl, rfl⟩
  · refine RD.iload_n (pc := 4) dX5_isFile_4 rfl ?_
    refine RD.bipush (pc := 5) (v := 64) dX5_isFile_5 (by decide) ?_
    refine RD.icmp_ge (pc := 7) 14 dX5_isFile_7 (by decide) (fun c7 => ?_) (fun c7 => ?_)
    · refine RD.iconst (pc := 14) (v := 0) dX5_isFile_14 (by decide) ?_
      refine RD.ireturn (pc := 15) dX5_isFile_15 rfl rfl ?_
      exact ⟨by rw [inR_big (N := 64) c7]; rfl, rfl⟩
    · refine RD.iconst (pc := 10) (v := 1) dX5_isFile_10 (by decide) ?_
      refine RD.goto (pc := 11) 15 dX5_isFile_11 (by decide) ?_
      refine RD.ireturn (pc := 15) dX5_isFile_15 rfl rfl ?_
      exact ⟨by rw [inR_in (N := 64) c1 c7]; rfl, rfl⟩

set_option maxRecDepth 20000 in
set_option maxHeartbeats 1000000 in
theorem c_has (K : EK) (d : Nat) {i j : Nat} (hok : okA (4, i, j)) (D : DT) (t : Int32) : CF K mX4_has d [rR (4, i, j), rI t] D (some (rI (bI (hasF (D (5, i, j)) t)))) D := by
  refine CF.of [some (rR (4, i, j)), some (rI t)] (by decide) (leb rfl) rfl ?_
  refine RD.iload_n (pc := 0) dX4_has_0 rfl ?_
  refine RD.if_lt (pc := 1) 33 dX4_has_1 (by decide) (fun c1 => ?_) (fun c1 => ?_)
  · refine RD.iconst (pc := 33) (v := 0) dX4_has_33 (by decide) ?_
    refine RD.ireturn (pc := 34) dX4_has_34 rfl rfl ?_
    exact ⟨by rw [hasF_out (inR_neg c1)]; rfl, rfl⟩
  · refine RD.iload_n (pc := 4) dX4_has_4 rfl ?_
    refine RD.sipush (pc := 5) (v := 256) dX4_has_5 (by decide) ?_
    refine RD.icmp_ge (pc := 8) 33 dX4_has_8 (by decide) (fun c8 => ?_) (fun c8 => ?_)
    · refine RD.iconst (pc := 33) (v := 0) dX4_has_33 (by decide) ?_
      refine RD.ireturn (pc := 34) dX4_has_34 rfl rfl ?_
      exact ⟨by rw [hasF_out (inR_big (N := 256) c8)]; rfl, rfl⟩
    · obtain ⟨n, hn, rfl⟩ := inR_n (N := 256) c1 c8 (by decide)
      refine RD.aload_n (pc := 11) dX4_has_11 rfl ?_
      refine RD.getR (pc := 12) dX4_has_12 flX4_9 hok rfl rfl ?_
      refine RD.iload_n (pc := 15) dX4_has_15 rfl ?_
      refine RD.iconst (pc := 16) (v := 5) dX4_has_16 (by decide) ?_
      refine RD.ishr (pc := 17) dX4_has_17 ?_
      refine RD.iL (pc := 18) (n := 8) (n / 32) (v := D (5, i, j) (n / 32)) rfl dX4_has_18 (ok45 hok) rfl (shr5 (by omega)) (by omega) (by decide) ?_
      refine RD.iconst (pc := 19) (v := 1) dX4_has_19 (by decide) ?_
      refine RD.iload_n (pc := 20) dX4_has_20 rfl ?_
      refine RD.bipush (pc := 21) (v := 31) dX4_has_21 (by decide) ?_
      refine RD.iand (pc := 23) dX4_has_23 ?_
      refine RD.ishl (pc := 24) dX4_has_24 ?_
      refine RD.iand (pc := 25) dX4_has_25 ?_
      refine RD.if_eq (pc := 26) 33 dX4_has_26 (by decide) (fun c26 => ?_) (fun c26 => ?_)
      · refine RD.iconst (pc := 33) (v := 0) dX4_has_33 (by decide) ?_
        refine RD.ireturn (pc := 34) dX4_has_34 rfl rfl ?_
        rw [and31t (by omega)] at c26
        exact ⟨by rw [hasF_nI hn, tg, (bit_and (by omega)).mp c26]; rfl, rfl⟩
      · refine RD.iconst (pc := 29) (v := 1) dX4_has_29 (by decide) ?_
        refine RD.goto (pc := 30) 34 dX4_has_30 (by decide) ?_
        refine RD.ireturn (pc := 34) dX4_has_34 rfl rfl ?_
        rw [and31t (by omega)] at c26
        exact ⟨by rw [hasF_nI hn, tg, eq_true_of_ne_false (fun e => c26 ((bit_and (by omega)).mpr e))]; rfl, rfl⟩


def addD (D : DT) (i j n : Nat) : DT := up (up D (5, i, j) (n / 32) (D (5, i, j) (n / 32) ||| (1 <<< nI (n % 32)))) (4, i, j) 1 (D (4, i, j) 1 + 1)
def addF (D : DT) (i j : Nat) (t : Int32) : DT := if inR t 256 = true ∧ hasF (D (5, i, j)) t = false then addD D i j t.toNatClampNeg else D
def remD (D : DT) (i j n : Nat) : DT := up (up D (5, i, j) (n / 32) (D (5, i, j) (n / 32) &&& ((1 <<< nI (n % 32)) ^^^ (-1)))) (4, i, j) 1 (D (4, i, j) 1 - 1)
def remF (D : DT) (i j : Nat) (t : Int32) : DT := if hasF (D (5, i, j)) t = true then remD D i j t.toNatClampNeg else D
theorem hasF_in {f : Nat → Int32} {t : Int32} (h : hasF f t = true) : inR t 256 = true := by
  cases hq : inR t 256 with
  | true => rfl
  | false => rw [hasF_out hq] at h; cases h
theorem addF_out {D : DT} {i j : Nat} {t : Int32} (h : inR t 256 = false) : addF D i j t = D := by simp [addF, h]
theorem addF_had {D : DT} {i j : Nat} {t : Int32} (h : hasF (D (5, i, j)) t = true) : addF D i j t = D := by simp [addF, h]
theorem addF_new {D : DT} {i j n : Nat} (hn : n < 256) (h : hasF (D (5, i, j)) (nI n) = false) : addF D i j (nI n) = addD D i j n := by
  simp [addF, h, inR_nI (by decide) hn, nI_clamp (n := n) (by omega)]
theorem remF_not {D : DT} {i j : Nat} {t : Int32} (h : hasF (D (5, i, j)) t = false) : remF D i j t = D := by simp [remF, h]
theorem remF_had {D : DT} {i j n : Nat} (hn : n < 256) (h : hasF (D (5, i, j)) (nI n) = true) : remF D i j (nI n) = remD D i j n := by
  simp [remF, h, nI_clamp (n := n) (by omega)]

set_option maxRecDepth 20000 in
set_option maxHeartbeats 1000000 in
theorem c_add (K : EK) (d : Nat) {i j : Nat} (hok : okA (4, i, j)) (D : DT) (t : Int32) : CF K mX4_add (d + 1) [rR (4, i, j), rI t] D (none) (addF D i j t) := by
  refine CF.of [some (rR (4, i, j)), some (rI t)] (by decide) (leb rfl) rfl ?_
  refine RD.iload_n (pc := 0) dX4_add_0 rfl ?_
  refine RD.cS1 (pc := 1) dX4_add_1 mlX4_19 (c_isTag K _ D t) (leb rfl) ?_
  refine RD.if_eq (pc := 4) 42 dX4_add_4 (by decide) (fun c4 => ?_) (fun c4 => ?_)
  · refine RD.ret (pc := 42) ⟨rfl, dX4_add_42⟩ ?_
    exact ⟨rfl, (addF_out (bI_0 c4)).symm⟩
  · refine RD.aload_n (pc := 7) dX4_add_7 rfl ?_
    refine RD.iload_n (pc := 8) dX4_add_8 rfl ?_
    refine RD.cV1 (pc := 9) dX4_add_9 mlX4_23 rfl hok rfl (c_has K _ hok D t) (leb rfl) ?_
    refine RD.if_ne (pc := 12) 42 dX4_add_12 (by decide) (fun c12 => ?_) (fun c12 => ?_)
    · refine RD.ret (pc := 42) ⟨rfl, dX4_add_42⟩ ?_
      exact ⟨rfl, (addF_had (bI_1 c12)).symm⟩
    · obtain ⟨n, hn, rfl⟩ := inR_t (N := 256) (by decide) (bI_1 c4)
      rw [bI_ne] at c12
      refine RD.aload_n (pc := 15) dX4_add_15 rfl ?_
      refine RD.getR (pc := 16) dX4_add_16 flX4_9 hok rfl rfl ?_
      refine RD.iload_n (pc := 19) dX4_add_19 rfl ?_
      refine RD.iconst (pc := 20) (v := 5) dX4_add_20 (by decide) ?_
      refine RD.ishr (pc := 21) dX4_add_21 ?_
      refine RD.dup2 (pc := 22) dX4_add_22 ?_
      refine RD.iL (pc := 23) (n := 8) (n / 32) (v := D (5, i, j) (n / 32)) rfl dX4_add_23 (ok45 hok) rfl (shr5 (by omega)) (by omega) (by decide) ?_
      refine RD.iconst (pc := 24) (v := 1) dX4_add_24 (by decide) ?_
      refine RD.iload_n (pc := 25) dX4_add_25 rfl ?_
      refine RD.bipush (pc := 26) (v := 31) dX4_add_26 (by decide) ?_
      refine RD.iand (pc := 28) dX4_add_28 ?_
      refine RD.ishl (pc := 29) dX4_add_29 ?_
      refine RD.ior (pc := 30) dX4_add_30 ?_
      refine RD.iast (pc := 31) (n := 8) (n / 32) dX4_add_31 (ok45 hok) rfl (shr5 (by omega)) (by omega) (by decide) ?_
      refine RD.aload_n (pc := 32) dX4_add_32 rfl ?_
      refine RD.dup (pc := 33) dX4_add_33 ?_
      refine RD.gI (pc := 34) (v := D (4, i, j) 1) (up_N (by simp) rfl) dX4_add_34 flX4_15 hok rfl rfl ?_
      refine RD.iconst (pc := 37) (v := 1) dX4_add_37 (by decide) ?_
      refine RD.iadd (pc := 38) dX4_add_38 ?_
      refine RD.putf (pc := 39) dX4_add_39 fpX4_15 hok rfl rfl rfl rfl ?_
      refine RD.ret (pc := 42) ⟨rfl, dX4_add_42⟩ ?_
      exact ⟨rfl, by rw [addF_new hn c12, and31t (by omega)]; rfl⟩

set_option maxRecDepth 20000 in
set_option maxHeartbeats 1000000 in
theorem c_remove (K : EK) (d : Nat) {i j : Nat} (hok : okA (4, i, j)) (D : DT) (t : Int32) : CF K mX4_remove (d + 1) [rR (4, i, j), rI t] D (none) (remF D i j t) := by
  refine CF.of [some (rR (4, i, j)), some (rI t)] (by decide) (leb rfl) rfl ?_
  refine RD.aload_n (pc := 0) dX4_remove_0 rfl ?_
  refine RD.iload_n (pc := 1) dX4_remove_1 rfl ?_
  refine RD.cV1 (pc := 2) dX4_remove_2 mlX4_23 rfl hok rfl (c_has K _ hok D t) (leb rfl) ?_
  refine RD.if_eq (pc := 5) 37 dX4_remove_5 (by decide) (fun c5 => ?_) (fun c5 => ?_)
  · refine RD.ret (pc := 37) ⟨rfl, dX4_remove_37⟩ ?_
    exact ⟨rfl, (remF_not (bI_0 c5)).symm⟩
  · obtain ⟨n, hn, rfl⟩ := inR_t (N := 256) (by decide) (hasF_in (bI_1 c5))
    refine RD.aload_n (pc := 8) dX4_remove_8 rfl ?_
    refine RD.getR (pc := 9) dX4_remove_9 flX4_9 hok rfl rfl ?_
    refine RD.iload_n (pc := 12) dX4_remove_12 rfl ?_
    refine RD.iconst (pc := 13) (v := 5) dX4_remove_13 (by decide) ?_
    refine RD.ishr (pc := 14) dX4_remove_14 ?_
    refine RD.dup2 (pc := 15) dX4_remove_15 ?_
    refine RD.iL (pc := 16) (n := 8) (n / 32) (v := D (5, i, j) (n / 32)) rfl dX4_remove_16 (ok45 hok) rfl (shr5 (by omega)) (by omega) (by decide) ?_
    refine RD.iconst (pc := 17) (v := 1) dX4_remove_17 (by decide) ?_
    refine RD.iload_n (pc := 18) dX4_remove_18 rfl ?_
    refine RD.bipush (pc := 19) (v := 31) dX4_remove_19 (by decide) ?_
    refine RD.iand (pc := 21) dX4_remove_21 ?_
    refine RD.ishl (pc := 22) dX4_remove_22 ?_
    refine RD.iconst (pc := 23) (v := (-1)) dX4_remove_23 (by decide) ?_
    refine RD.ixor (pc := 24) dX4_remove_24 ?_
    refine RD.iand (pc := 25) dX4_remove_25 ?_
    refine RD.iast (pc := 26) (n := 8) (n / 32) dX4_remove_26 (ok45 hok) rfl (shr5 (by omega)) (by omega) (by decide) ?_
    refine RD.aload_n (pc := 27) dX4_remove_27 rfl ?_
    refine RD.dup (pc := 28) dX4_remove_28 ?_
    refine RD.gI (pc := 29) (v := D (4, i, j) 1) (up_N (by simp) rfl) dX4_remove_29 flX4_15 hok rfl rfl ?_
    refine RD.iconst (pc := 32) (v := 1) dX4_remove_32 (by decide) ?_
    refine RD.isub (pc := 33) dX4_remove_33 ?_
    refine RD.putf (pc := 34) dX4_remove_34 fpX4_15 hok rfl rfl rfl rfl ?_
    refine RD.ret (pc := 37) ⟨rfl, dX4_remove_37⟩ ?_
    exact ⟨rfl, by rw [remF_had hn (bI_1 c5), and31t (by omega)]; rfl⟩


/-- change: the state behind it, and the answer -/
def chgD (D : DT) (i j : Nat) (t b m : Int32) : DT := if b = 0 then remF D i j t else if hasF (D (5, i, j)) t = true then D else if D (4, i, j) 1 < m then addF D i j t else D
def chgR (D : DT) (i j : Nat) (t b m : Int32) : Int32 := if b = 0 then remF D i j t (4, i, j) 1 else if hasF (D (5, i, j)) t = true then D (4, i, j) 1 else if D (4, i, j) 1 < m then addF D i j t (4, i, j) 1 else -1

set_option maxRecDepth 20000 in
set_option maxHeartbeats 1000000 in
theorem c_change (K : EK) (d : Nat) {i j : Nat} (hok : okA (4, i, j)) (D : DT) (t b m : Int32) : CF K mX4_change (d + 2) [rR (4, i, j), rI t, rI b, rI m] D (some (rI (chgR D i j t b m))) (chgD D i j t b m) := by
  refine CF.of [some (rR (4, i, j)), some (rI t), some (rI b), some (rI m)] (by decide) (leb rfl) rfl ?_
  refine RD.iload_n (pc := 0) dX4_change_0 rfl ?_
  refine RD.if_ne (pc := 1) 12 dX4_change_1 (by decide) (fun c1 => ?_) (fun c1 => ?_)
  · refine RD.aload_n (pc := 12) dX4_change_12 rfl ?_
    refine RD.iload_n (pc := 13) dX4_change_13 rfl ?_
    refine RD.cV1 (pc := 14) dX4_change_14 mlX4_23 rfl hok rfl (c_has K _ hok D t) (leb rfl) ?_
    refine RD.if_ne (pc := 17) 35 dX4_change_17 (by decide) (fun c17 => ?_) (fun c17 => ?_)
    · refine RD.aload_n (pc := 35) dX4_change_35 rfl ?_
      refine RD.gI (pc := 36) (v := D (4, i, j) 1) rfl dX4_change_36 flX4_15 hok rfl rfl ?_
      refine RD.ireturn (pc := 39) dX4_change_39 rfl rfl ?_
      exact ⟨by simp [chgR, c1, bI_1 c17], by simp [chgD, c1, bI_1 c17]⟩
    · refine RD.aload_n (pc := 20) dX4_change_20 rfl ?_
      refine RD.gI (pc := 21) (v := D (4, i, j) 1) rfl dX4_change_21 flX4_15 hok rfl rfl ?_
      refine RD.iload_n (pc := 24) dX4_change_24 rfl ?_
      refine RD.icmp_lt (pc := 25) 30 dX4_change_25 (by decide) (fun c25 => ?_) (fun c25 => ?_)
      · refine RD.aload_n (pc := 30) dX4_change_30 rfl ?_
        refine RD.iload_n (pc := 31) dX4_change_31 rfl ?_
        refine RD.cV1v (pc := 32) dX4_change_32 mlX4_30 rfl hok rfl (c_add K _ hok D t) (leb rfl) ?_
        refine RD.aload_n (pc := 35) dX4_change_35 rfl ?_
        refine RD.gI (pc := 36) (v := (addF D i j t) (4, i, j) 1) rfl dX4_change_36 flX4_15 hok rfl rfl ?_
        refine RD.ireturn (pc := 39) dX4_change_39 rfl rfl ?_
        rw [bI_ne] at c17
        exact ⟨by simp [chgR, c1, c17, c25], by simp [chgD, c1, c17, c25]⟩
      · refine RD.iconst (pc := 28) (v := (-1)) dX4_change_28 (by decide) ?_
        refine RD.ireturn (pc := 29) dX4_change_29 rfl rfl ?_
        rw [bI_ne] at c17
        exact ⟨by simp [chgR, c1, c17, c25], by simp [chgD, c1, c17, c25]⟩
  · refine RD.aload_n (pc := 4) dX4_change_4 rfl ?_
    refine RD.iload_n (pc := 5) dX4_change_5 rfl ?_
    refine RD.cV1v (pc := 6) dX4_change_6 mlX4_26 rfl hok rfl (c_remove K _ hok D t) (leb rfl) ?_
    refine RD.goto (pc := 9) 35 dX4_change_9 (by decide) ?_
    refine RD.aload_n (pc := 35) dX4_change_35 rfl ?_
    refine RD.gI (pc := 36) (v := (remF D i j t) (4, i, j) 1) rfl dX4_change_36 flX4_15 hok rfl rfl ?_
    refine RD.ireturn (pc := 39) dX4_change_39 rfl rfl ?_
    exact ⟨by simp [chgR, c1], by simp [chgD, c1]⟩


/-- the first n words of a are nought -/
def clrW (D : DT) (a : AD) (n : Nat) : DT := fun x => if x = a then (fun k => if k < n then 0 else D a k) else D x
theorem clrW_0 (D : DT) (a : AD) : clrW D a 0 = D := by
  funext x
  by_cases h : x = a
  · subst h; simp [clrW]
  · simp [clrW, h]
theorem clrW_s (D : DT) (a : AD) (n : Nat) : up (clrW D a n) a n 0 = clrW D a (n + 1) := by
  funext x k
  rw [up_at]
  by_cases h : x = a
  · subst h
    by_cases h2 : k = n
    · subst h2; simp [clrW]
    · simp only [clrW, h2, and_false, if_false, if_true]
      by_cases h3 : k < n
      · simp [h3, show k < n + 1 by omega]
      · simp [h3, show ¬ k < n + 1 by omega]
  · simp [clrW, h]
/-- the first n words of a are those of b -/
def cpyW (D : DT) (a b : AD) (n : Nat) : DT := fun x => if x = a then (fun k => if k < n then D b k else D a k) else D x
theorem cpyW_0 (D : DT) (a b : AD) : cpyW D a b 0 = D := by
  funext x
  by_cases h : x = a
  · subst h; simp [cpyW]
  · simp [cpyW, h]
theorem cpyW_r (D : DT) (a b : AD) (n : Nat) : cpyW D a b n b n = D b n := by
  by_cases h : b = a
  · subst h; simp [cpyW]
  · simp [cpyW, h]
theorem cpyW_s (D : DT) (a b : AD) (n : Nat) : up (cpyW D a b n) a n (D b n) = cpyW D a b (n + 1) := by
  funext x k
  rw [up_at]
  by_cases h : x = a
  · subst h
    by_cases h2 : k = n
    · subst h2; simp [cpyW]
    · simp only [cpyW, h2, and_false, if_false, if_true]
      by_cases h3 : k < n
      · simp [h3, show k < n + 1 by omega]
      · simp [h3, show ¬ k < n + 1 by omega]
  · simp [cpyW, h]
def clrF (D : DT) (i j : Nat) : DT := up (clrW D (5, i, j) 8) (4, i, j) 1 0
def cpyF (D : DT) (i j i2 j2 : Nat) : DT := up (cpyW D (5, i, j) (5, i2, j2) 8) (4, i, j) 1 (D (4, i2, j2) 1)

set_option maxRecDepth 20000 in
set_option maxHeartbeats 2000000 in
theorem l_clear (K : EK) (d : Nat) {i j : Nat} (hok : okA (4, i, j)) (D : DT) : ∀ n k, k ≤ 8 → 9 ≤ k + n → RD K mX4_clear d 2 [some (rR (4, i, j)), some (rI (nI k))] [] (clrW D (5, i, j) k) (fun r0 D0 => r0 = none ∧ D0 = clrF D i j) := by
  intro n
  induction n with
  | zero =>
    intro k hk9 hn
    omega
  | succ n ih =>
    intro k hk9 hn
    refine RD.iload_n (pc := 2) dX4_clear_2 rfl ?_
    refine RD.bipush (pc := 3) (v := 8) dX4_clear_3 (by decide) ?_
    refine RD.icmp_ge (pc := 5) 21 dX4_clear_5 (by decide) (fun c5 => ?_) (fun c5 => ?_)
    · have hk8 : k = 8 := by
        have := (nI_leI (a := 8) (b := k) (by decide) (by omega)).mp c5
        omega
      subst hk8
      refine RD.aload_n (pc := 21) dX4_clear_21 rfl ?_
      refine RD.iconst (pc := 22) (v := 0) dX4_clear_22 (by decide) ?_
      refine RD.putf (pc := 23) dX4_clear_23 fpX4_15 hok rfl rfl rfl rfl ?_
      refine RD.ret (pc := 26) ⟨rfl, dX4_clear_26⟩ ?_
      exact ⟨rfl, rfl⟩
    · have hk : k < 8 := Nat.lt_of_not_le (fun h => c5 (nI_le h (by omega)))
      refine RD.aload_n (pc := 8) dX4_clear_8 rfl ?_
      refine RD.getR (pc := 9) dX4_clear_9 flX4_9 hok rfl rfl ?_
      refine RD.iload_n (pc := 12) dX4_clear_12 rfl ?_
      refine RD.iconst (pc := 13) (v := 0) dX4_clear_13 (by decide) ?_
      refine RD.iast (pc := 14) (n := 8) k dX4_clear_14 (ok45 hok) rfl rfl hk (by decide) ?_
      refine RD.iinc (pc := 15) (ls' := [some (rR (4, i, j)), some (rI (nI (k + 1)))]) dX4_clear_15 rfl (nI_1 k) (by decide) rfl ?_
      refine RD.goto (pc := 18) 2 dX4_clear_18 (by decide) ?_
      rw [clrW_s]
      exact ih (k + 1) (by omega) (by omega)

set_option maxRecDepth 20000 in
set_option maxHeartbeats 2000000 in
theorem c_clear (K : EK) (d : Nat) {i j : Nat} (hok : okA (4, i, j)) (D : DT) : CF K mX4_clear d [rR (4, i, j)] D (none) (clrF D i j) := by
  refine CF.of [some (rR (4, i, j)), none] (by decide) (leb rfl) rfl ?_
  refine RD.iconst (pc := 0) (v := 0) dX4_clear_0 (by decide) ?_
  refine RD.istore_n (pc := 1) (ls' := [some (rR (4, i, j)), some (rI 0)]) dX4_clear_1 (by decide) rfl ?_
  have h := l_clear K d hok D 9 0 (by omega) (by omega)
  rw [clrW_0] at h
  exact h

set_option maxRecDepth 20000 in
set_option maxHeartbeats 2000000 in
theorem l_copy (K : EK) (d : Nat) {i j i2 j2 : Nat} (hok : okA (4, i, j)) (hok2 : okA (4, i2, j2)) (D : DT) : ∀ n k, k ≤ 8 → 9 ≤ k + n → RD K mX4_copy d 2 [some (rR (4, i, j)), some (rR (4, i2, j2)), some (rI (nI k))] [] (cpyW D (5, i, j) (5, i2, j2) k) (fun r0 D0 => r0 = none ∧ D0 = cpyF D i j i2 j2) := by
  intro n
  induction n with
  | zero =>
    intro k hk9 hn
    omega
  | succ n ih =>
    intro k hk9 hn
    refine RD.iload_n (pc := 2) dX4_copy_2 rfl ?_
    refine RD.bipush (pc := 3) (v := 8) dX4_copy_3 (by decide) ?_
    refine RD.icmp_ge (pc := 5) 26 dX4_copy_5 (by decide) (fun c5 => ?_) (fun c5 => ?_)
    · have hk8 : k = 8 := by
        have := (nI_leI (a := 8) (b := k) (by decide) (by omega)).mp c5
        omega
      subst hk8
      refine RD.aload_n (pc := 26) dX4_copy_26 rfl ?_
      refine RD.aload_n (pc := 27) dX4_copy_27 rfl ?_
      refine RD.gI (pc := 28) (v := D (4, i2, j2) 1) (by simp [cpyW]) dX4_copy_28 flX4_15 hok2 rfl rfl ?_
      refine RD.putf (pc := 31) dX4_copy_31 fpX4_15 hok rfl rfl rfl rfl ?_
      refine RD.ret (pc := 34) ⟨rfl, dX4_copy_34⟩ ?_
      exact ⟨rfl, rfl⟩
    · have hk : k < 8 := Nat.lt_of_not_le (fun h => c5 (nI_le h (by omega)))
      refine RD.aload_n (pc := 8) dX4_copy_8 rfl ?_
      refine RD.getR (pc := 9) dX4_copy_9 flX4_9 hok rfl rfl ?_
      refine RD.iload_n (pc := 12) dX4_copy_12 rfl ?_
      refine RD.aload_n (pc := 13) dX4_copy_13 rfl ?_
      refine RD.getR (pc := 14) dX4_copy_14 flX4_9 hok2 rfl rfl ?_
      refine RD.iload_n (pc := 17) dX4_copy_17 rfl ?_
      refine RD.iL (pc := 18) (n := 8) k (v := D (5, i2, j2) k) (cpyW_r D (5, i, j) (5, i2, j2) k) dX4_copy_18 (ok45 hok2) rfl rfl hk (by decide) ?_
      refine RD.iast (pc := 19) (n := 8) k dX4_copy_19 (ok45 hok) rfl rfl hk (by decide) ?_
      refine RD.iinc (pc := 20) (ls' := [some (rR (4, i, j)), some (rR (4, i2, j2)), some (rI (nI (k + 1)))]) dX4_copy_20 rfl (nI_1 k) (by decide) rfl ?_
      refine RD.goto (pc := 23) 2 dX4_copy_23 (by decide) ?_
      rw [cpyW_s]
      exact ih (k + 1) (by omega) (by omega)

set_option maxRecDepth 20000 in
set_option maxHeartbeats 2000000 in
theorem c_copy (K : EK) (d : Nat) {i j i2 j2 : Nat} (hok : okA (4, i, j)) (hok2 : okA (4, i2, j2)) (D : DT) : CF K mX4_copy d [rR (4, i, j), rR (4, i2, j2)] D (none) (cpyF D i j i2 j2) := by
  refine CF.of [some (rR (4, i, j)), some (rR (4, i2, j2)), none] (by decide) (leb rfl) rfl ?_
  refine RD.iconst (pc := 0) (v := 0) dX4_copy_0 (by decide) ?_
  refine RD.istore_n (pc := 1) (ls' := [some (rR (4, i, j)), some (rR (4, i2, j2)), some (rI 0)]) dX4_copy_1 (by decide) rfl ?_
  have h := l_copy K d hok hok2 D 9 0 (by omega) (by omega)
  rw [cpyW_0] at h
  exact h


def subE (f g h : Nat → Int32) : Bool := (List.range 8).all (fun k => decide (f k &&& ((g k ||| h k) ^^^ (-1)) = 0))
theorem subE_t {f g h : Nat → Int32} (H : ∀ k, k < 8 → f k &&& ((g k ||| h k) ^^^ (-1)) = 0) : subE f g h = true := by
  simp only [subE, List.all_eq_true, List.mem_range, decide_eq_true_eq]
  exact H
theorem subE_f {f g h : Nat → Int32} {k : Nat} (hk : k < 8) (H : ¬ f k &&& ((g k ||| h k) ^^^ (-1)) = 0) : subE f g h = false := by
  cases hq : subE f g h with
  | false => rfl
  | true =>
    simp only [subE, List.all_eq_true, List.mem_range, decide_eq_true_eq] at hq
    exact absurd (hq k hk) H

set_option maxRecDepth 20000 in
set_option maxHeartbeats 2000000 in
theorem l_isInEither (K : EK) (d : Nat) {i j i2 j2 i3 j3 : Nat} (hok : okA (4, i, j)) (hok2 : okA (4, i2, j2)) (hok3 : okA (4, i3, j3)) (D : DT) : ∀ n k, k ≤ 8 → 9 ≤ k + n → (∀ m, m < k → D (5, i, j) m &&& ((D (5, i2, j2) m ||| D (5, i3, j3) m) ^^^ (-1)) = 0) → RD K mX4_isInEither d 2 [some (rR (4, i, j)), some (rR (4, i2, j2)), some (rR (4, i3, j3)), some (rI (nI k))] [] D (fun r0 D0 => r0 = some (rI (bI (subE (D (5, i, j)) (D (5, i2, j2)) (D (5, i3, j3))))) ∧ D0 = D) := by
  intro n
  induction n with
  | zero =>
    intro k hk9 hn hi
    omega
  | succ n ih =>
    intro k hk9 hn hi
    refine RD.iload_n (pc := 2) dX4_isInEither_2 rfl ?_
    refine RD.bipush (pc := 3) (v := 8) dX4_isInEither_3 (by decide) ?_
    refine RD.icmp_ge (pc := 5) 41 dX4_isInEither_5 (by decide) (fun c5 => ?_) (fun c5 => ?_)
    · have hk8 : k = 8 := by
        have := (nI_leI (a := 8) (b := k) (by decide) (by omega)).mp c5
        omega
      subst hk8
      refine RD.iconst (pc := 41) (v := 1) dX4_isInEither_41 (by decide) ?_
      refine RD.ireturn (pc := 42) dX4_isInEither_42 rfl rfl ?_
      exact ⟨by rw [subE_t hi]; rfl, rfl⟩
    · have hk : k < 8 := Nat.lt_of_not_le (fun h => c5 (nI_le h (by omega)))
      refine RD.aload_n (pc := 8) dX4_isInEither_8 rfl ?_
      refine RD.getR (pc := 9) dX4_isInEither_9 flX4_9 hok rfl rfl ?_
      refine RD.iload_n (pc := 12) dX4_isInEither_12 rfl ?_
      refine RD.iL (pc := 13) (n := 8) k (v := D (5, i, j) k) rfl dX4_isInEither_13 (ok45 hok) rfl rfl hk (by decide) ?_
      refine RD.aload_n (pc := 14) dX4_isInEither_14 rfl ?_
      refine RD.getR (pc := 15) dX4_isInEither_15 flX4_9 hok2 rfl rfl ?_
      refine RD.iload_n (pc := 18) dX4_isInEither_18 rfl ?_
      refine RD.iL (pc := 19) (n := 8) k (v := D (5, i2, j2) k) rfl dX4_isInEither_19 (ok45 hok2) rfl rfl hk (by decide) ?_
      refine RD.aload_n (pc := 20) dX4_isInEither_20 rfl ?_
      refine RD.getR (pc := 21) dX4_isInEither_21 flX4_9 hok3 rfl rfl ?_
      refine RD.iload_n (pc := 24) dX4_isInEither_24 rfl ?_
      refine RD.iL (pc := 25) (n := 8) k (v := D (5, i3, j3) k) rfl dX4_isInEither_25 (ok45 hok3) rfl rfl hk (by decide) ?_
      refine RD.ior (pc := 26) dX4_isInEither_26 ?_
      refine RD.iconst (pc := 27) (v := (-1)) dX4_isInEither_27 (by decide) ?_
      refine RD.ixor (pc := 28) dX4_isInEither_28 ?_
      refine RD.iand (pc := 29) dX4_isInEither_29 ?_
      refine RD.if_eq (pc := 30) 35 dX4_isInEither_30 (by decide) (fun c30 => ?_) (fun c30 => ?_)
      · refine RD.iinc (pc := 35) (ls' := [some (rR (4, i, j)), some (rR (4, i2, j2)), some (rR (4, i3, j3)), some (rI (nI (k + 1)))]) dX4_isInEither_35 rfl (nI_1 k) (by decide) rfl ?_
        refine RD.goto (pc := 38) 2 dX4_isInEither_38 (by decide) ?_
        exact ih (k + 1) (by omega) (by omega) (lt_s hi c30)
      · refine RD.iconst (pc := 33) (v := 0) dX4_isInEither_33 (by decide) ?_
        refine RD.ireturn (pc := 34) dX4_isInEither_34 rfl rfl ?_
        exact ⟨by rw [subE_f hk c30]; rfl, rfl⟩

set_option maxRecDepth 20000 in
set_option maxHeartbeats 2000000 in
theorem c_isInEither (K : EK) (d : Nat) {i j i2 j2 i3 j3 : Nat} (hok : okA (4, i, j)) (hok2 : okA (4, i2, j2)) (hok3 : okA (4, i3, j3)) (D : DT) : CF K mX4_isInEither d [rR (4, i, j), rR (4, i2, j2), rR (4, i3, j3)] D (some (rI (bI (subE (D (5, i, j)) (D (5, i2, j2)) (D (5, i3, j3)))))) D := by
  refine CF.of [some (rR (4, i, j)), some (rR (4, i2, j2)), some (rR (4, i3, j3)), none] (by decide) (leb rfl) rfl ?_
  refine RD.iconst (pc := 0) (v := 0) dX4_isInEither_0 (by decide) ?_
  refine RD.istore_n (pc := 1) (ls' := [some (rR (4, i, j)), some (rR (4, i2, j2)), some (rR (4, i3, j3)), some (rI 0)]) dX4_isInEither_1 (by decide) rfl ?_
  exact l_isInEither K d hok hok2 hok3 D 9 0 (by omega) (by omega) (fun m hm => absurd hm (Nat.not_lt_zero m))


def subB (f g : Nat → Int32) : Bool := subE f g g

set_option maxRecDepth 20000 in
set_option maxHeartbeats 1000000 in
theorem c_isIn (K : EK) (d : Nat) {i j i2 j2 : Nat} (hok : okA (4, i, j)) (hok2 : okA (4, i2, j2)) (D : DT) : CF K mX4_isIn (d + 1) [rR (4, i, j), rR (4, i2, j2)] D (some (rI (bI (subB (D (5, i, j)) (D (5, i2, j2)))))) D := by
  refine CF.of [some (rR (4, i, j)), some (rR (4, i2, j2))] (by decide) (leb rfl) rfl ?_
  refine RD.aload_n (pc := 0) dX4_isIn_0 rfl ?_
  refine RD.aload_n (pc := 1) dX4_isIn_1 rfl ?_
  refine RD.aload_n (pc := 2) dX4_isIn_2 rfl ?_
  refine RD.cV2 (pc := 3) dX4_isIn_3 mlX4_33 rfl hok rfl (c_isInEither K _ hok hok2 hok2 D) (leb rfl) ?_
  refine RD.ireturn (pc := 6) dX4_isIn_6 rfl (nar_bI _) ?_
  exact ⟨rfl, rfl⟩


/-- the i-th tag from k on, c being counted so far -/
def nthL (f : Nat → Int32) : Nat → Nat → Int32 → Int32 → Int32
  | 0, _, _, _ => -1
  | n + 1, k, c, x => if tg f k = true then (if c = x then nI k else nthL f n (k + 1) (c + 1) x) else nthL f n (k + 1) c x
def tagAtF (D : DT) (i j : Nat) (x : Int32) : Int32 := if x < 0 then -1 else if x < D (4, i, j) 1 then nthL (D (5, i, j)) 256 0 0 x else -1

set_option maxRecDepth 20000 in
set_option maxHeartbeats 2000000 in
theorem l_tagAt (K : EK) (d : Nat) {i j : Nat} (hok : okA (4, i, j)) (D : DT) (x : Int32) : ∀ n (k : Nat) (c : Int32), k + n = 256 → RD K mX4_tagAt (d + 1) 18 [some (rR (4, i, j)), some (rI x), some (rI c), some (rI (nI k))] [] D (fun r0 D0 => r0 = some (rI (nthL (D (5, i, j)) n k c x)) ∧ D0 = D) := by
  intro n
  induction n with
  | zero =>
    intro k c hk
    refine RD.iload_n (pc := 18) dX4_tagAt_18 rfl ?_
    refine RD.sipush (pc := 19) (v := 256) dX4_tagAt_19 (by decide) ?_
    refine RD.icmp_ge (pc := 22) 49 dX4_tagAt_22 (by decide) (fun c22 => ?_) (fun c22 => absurd (nI_le (a := 256) (b := k) (by omega) (by omega)) c22)
    refine RD.iconst (pc := 49) (v := (-1)) dX4_tagAt_49 (by decide) ?_
    refine RD.ireturn (pc := 50) dX4_tagAt_50 rfl rfl ?_
    exact ⟨rfl, rfl⟩
  | succ n ih =>
    intro k c hk
    refine RD.iload_n (pc := 18) dX4_tagAt_18 rfl ?_
    refine RD.sipush (pc := 19) (v := 256) dX4_tagAt_19 (by decide) ?_
    refine RD.icmp_ge (pc := 22) 49 dX4_tagAt_22 (by decide) (fun c22 => absurd c22 (nI_ge (a := k) (b := 256) (by omega) (by decide))) (fun c22 => ?_)
    refine RD.aload_n (pc := 25) dX4_tagAt_25 rfl ?_
    refine RD.iload_n (pc := 26) dX4_tagAt_26 rfl ?_
    refine RD.cV1 (pc := 27) dX4_tagAt_27 mlX4_23 rfl hok rfl (c_has K _ hok D (nI k)) (leb rfl) ?_
    rw [hasF_nI (by omega)]
    refine RD.if_eq (pc := 30) 43 dX4_tagAt_30 (by decide) (fun c30 => ?_) (fun c30 => ?_)
    · rw [show nthL (D (5, i, j)) (n + 1) k c x = nthL (D (5, i, j)) n (k + 1) c x by simp [nthL, bI_0 c30]]
      refine RD.iinc (pc := 43) (ls' := [some (rR (4, i, j)), some (rI x), some (rI c), some (rI (nI (k + 1)))]) dX4_tagAt_43 rfl (nI_1 k) (by decide) rfl ?_
      refine RD.goto (pc := 46) 18 dX4_tagAt_46 (by decide) ?_
      exact ih (k + 1) c (by omega)
    · refine RD.iload_n (pc := 33) dX4_tagAt_33 rfl ?_
      refine RD.iload_n (pc := 34) dX4_tagAt_34 rfl ?_
      refine RD.icmp_ne (pc := 35) 40 dX4_tagAt_35 (by decide) (fun c35 => ?_) (fun c35 => ?_)
      · refine RD.iinc (pc := 40) (ls' := [some (rR (4, i, j)), some (rI x), some (rI (c + 1)), some (rI (nI k))]) dX4_tagAt_40 rfl rfl (by decide) rfl ?_
        rw [show nthL (D (5, i, j)) (n + 1) k c x = nthL (D (5, i, j)) n (k + 1) (c + 1) x by simp [nthL, bI_1 c30, c35]]
        refine RD.iinc (pc := 43) (ls' := [some (rR (4, i, j)), some (rI x), some (rI (c + 1)), some (rI (nI (k + 1)))]) dX4_tagAt_43 rfl (nI_1 k) (by decide) rfl ?_
        refine RD.goto (pc := 46) 18 dX4_tagAt_46 (by decide) ?_
        exact ih (k + 1) (c + 1) (by omega)
      · refine RD.iload_n (pc := 38) dX4_tagAt_38 rfl ?_
        refine RD.ireturn (pc := 39) dX4_tagAt_39 rfl rfl ?_
        exact ⟨by simp [nthL, bI_1 c30, c35], rfl⟩

set_option maxRecDepth 20000 in
set_option maxHeartbeats 1000000 in
theorem c_tagAt (K : EK) (d : Nat) {i j : Nat} (hok : okA (4, i, j)) (D : DT) (x : Int32) : CF K mX4_tagAt (d + 1) [rR (4, i, j), rI x] D (some (rI (tagAtF D i j x))) D := by
  refine CF.of [some (rR (4, i, j)), some (rI x), none, none] (by decide) (leb rfl) rfl ?_
  refine RD.iload_n (pc := 0) dX4_tagAt_0 rfl ?_
  refine RD.if_lt (pc := 1) 12 dX4_tagAt_1 (by decide) (fun c1 => ?_) (fun c1 => ?_)
  · refine RD.iconst (pc := 12) (v := (-1)) dX4_tagAt_12 (by decide) ?_
    refine RD.ireturn (pc := 13) dX4_tagAt_13 rfl rfl ?_
    exact ⟨by simp [tagAtF, c1], rfl⟩
  · refine RD.iload_n (pc := 4) dX4_tagAt_4 rfl ?_
    refine RD.aload_n (pc := 5) dX4_tagAt_5 rfl ?_
    refine RD.gI (pc := 6) (v := D (4, i, j) 1) rfl dX4_tagAt_6 flX4_15 hok rfl rfl ?_
    refine RD.icmp_lt (pc := 9) 14 dX4_tagAt_9 (by decide) (fun c9 => ?_) (fun c9 => ?_)
    · refine RD.iconst (pc := 14) (v := 0) dX4_tagAt_14 (by decide) ?_
      refine RD.istore_n (pc := 15) (ls' := [some (rR (4, i, j)), some (rI x), some (rI 0), none]) dX4_tagAt_15 (by decide) rfl ?_
      refine RD.iconst (pc := 16) (v := 0) dX4_tagAt_16 (by decide) ?_
      refine RD.istore_n (pc := 17) (ls' := [some (rR (4, i, j)), some (rI x), some (rI 0), some (rI 0)]) dX4_tagAt_17 (by decide) rfl ?_
      have h := l_tagAt K d hok D x 256 0 0 rfl
      rw [show nthL (D (5, i, j)) 256 0 0 x = tagAtF D i j x by simp [tagAtF, c1, c9]] at h
      exact h
    · refine RD.iconst (pc := 12) (v := (-1)) dX4_tagAt_12 (by decide) ?_
      refine RD.ireturn (pc := 13) dX4_tagAt_13 rfl rfl ?_
      exact ⟨by simp [tagAtF, c1, c9], rfl⟩
