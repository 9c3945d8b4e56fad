theorem div32 {n : Nat} (h : n < 2 ^ 31) : nI n / 32 = nI (n / 32) := pk_div (d := 32) h (by decide) (by decide)
theorem rem32 {n : Nat} (h : n < 2 ^ 31) : nI n - nI n / 32 * 32 = nI (n % 32) := pk_rem (d := 32) h (by decide) (by decide)
theorem div8 {n : Nat} (h : n < 2 ^ 31) : nI n / 8 = nI (n / 8) := pk_div (d := 8) h (by decide) (by decide)
theorem rem8 {n : Nat} (h : n < 2 ^ 31) : nI n - nI n / 8 * 8 = nI (n % 8) := pk_rem (d := 8) h (by decide) (by decide)
/-- the tag is THERE -/
def thB (D : DT) (t : Int32) : Bool := inR t 256 && decide (nI (t.toNatClampNeg % 32) < D (2, t.toNatClampNeg / 32, 0) 6)
theorem thB_nI {D : DT} {n : Nat} (hn : n < 256) : thB D (nI n) = decide (nI (n % 32) < D (2, n / 32, 0) 6) := by
  rw [thB, inR_nI (by decide) hn, nI_clamp (by omega), Bool.true_and]
theorem thB_in {D : DT} {t : Int32} (h : thB D t = true) : inR t 256 = true := by
  cases hq : inR t 256 with
  | true => rfl
  | false => simp [thB, hq] at h

set_option maxRecDepth 20000 in
set_option maxHeartbeats 1000000 in
theorem c_isThere (K : EK) (d : Nat) (D : DT) (t : Int32) : CF K mX5_isThere (d + 1) [rR (0, 0, 0), rI t] D (some (rI (bI (thB D t)))) D := by
  refine CF.of [some (rR (0, 0, 0)), some (rI t)] (by decide) (leb rfl) rfl ?_
  refine RD.iload_n (pc := 0) dX5_isThere_0 rfl ?_
  refine RD.cS1 (pc := 1) dX5_isThere_1 mlX5_144 (c_isTag K _ D t) (leb rfl) ?_
  refine RD.if_eq (pc := 4) 30 dX5_isThere_4 (by decide) (fun c4 => ?_) (fun c4 => ?_)
  · refine RD.iconst (pc := 30) (v := 0) dX5_isThere_30 (by decide) ?_
    refine RD.ireturn (pc := 31) dX5_isThere_31 rfl rfl ?_
    exact ⟨by rw [thB, bI_0 c4]; rfl, rfl⟩
  · obtain ⟨n, hn, rfl⟩ := inR_t (N := 256) (by decide) (bI_1 c4)
    refine RD.iload_n (pc := 7) dX5_isThere_7 rfl ?_
    refine RD.bipush (pc := 8) (v := 32) dX5_isThere_8 (by decide) ?_
    refine RD.irem (pc := 10) dX5_isThere_10 (by decide) ?_
    refine RD.aload_n (pc := 11) dX5_isThere_11 rfl ?_
    refine RD.getR (pc := 12) dX5_isThere_12 flX5_11 ok0 rfl rfl ?_
    refine RD.iload_n (pc := 15) dX5_isThere_15 rfl ?_
    refine RD.bipush (pc := 16) (v := 32) dX5_isThere_16 (by decide) ?_
    refine RD.idiv (pc := 18) dX5_isThere_18 (by decide) ?_
    refine RD.aald (pc := 19) (n / 32) dX5_isThere_19 ok1 rfl rfl (div32 (by omega)) (by omega) (by decide) ?_
    refine RD.gI (pc := 20) (v := D (2, n / 32, 0) 6) rfl dX5_isThere_20 flX5_40 (ok2 (by omega)) rfl rfl ?_
    refine RD.icmp_ge (pc := 23) 30 dX5_isThere_23 (by decide) (fun c23 => ?_) (fun c23 => ?_)
    · refine RD.iconst (pc := 30) (v := 0) dX5_isThere_30 (by decide) ?_
      refine RD.ireturn (pc := 31) dX5_isThere_31 rfl rfl ?_
      rw [rem32 (by omega)] at c23
      exact ⟨by rw [thB_nI hn, decide_eq_false (Int32.not_lt.mpr c23)]; rfl, rfl⟩
    · refine RD.iconst (pc := 26) (v := 1) dX5_isThere_26 (by decide) ?_
      refine RD.goto (pc := 27) 31 dX5_isThere_27 (by decide) ?_
      refine RD.ireturn (pc := 31) dX5_isThere_31 rfl rfl ?_
      rw [rem32 (by omega)] at c23
      exact ⟨by rw [thB_nI hn, decide_eq_true (i32_nle c23)]; rfl, rfl⟩

set_option maxRecDepth 20000 in
set_option maxHeartbeats 1000000 in
theorem c_fileAt (K : EK) (d : Nat) (D : DT) {n : Nat} (hn : n < 64) : CF K mX5_fileAt d [rR (0, 0, 0), rI (nI n)] D (some (rR (12, n / 8, n % 8))) D := by
  refine CF.of [some (rR (0, 0, 0)), some (rI (nI n))] (by decide) (leb rfl) rfl ?_
  refine RD.aload_n (pc := 0) dX5_fileAt_0 rfl ?_
  refine RD.getR (pc := 1) dX5_fileAt_1 flX5_11 ok0 rfl rfl ?_
  refine RD.iload_n (pc := 4) dX5_fileAt_4 rfl ?_
  refine RD.bipush (pc := 5) (v := 8) dX5_fileAt_5 (by decide) ?_
  refine RD.idiv (pc := 7) dX5_fileAt_7 (by decide) ?_
  refine RD.aald (pc := 8) (n / 8) dX5_fileAt_8 ok1 rfl rfl (div8 (by omega)) (by omega) (by decide) ?_
  refine RD.getR (pc := 9) dX5_fileAt_9 flX5_147 (ok2 (by omega)) rfl rfl ?_
  refine RD.iload_n (pc := 12) dX5_fileAt_12 rfl ?_
  refine RD.bipush (pc := 13) (v := 8) dX5_fileAt_13 (by decide) ?_
  refine RD.irem (pc := 15) dX5_fileAt_15 (by decide) ?_
  refine RD.aald (pc := 16) (n % 8) dX5_fileAt_16 (ok9 (by omega)) rfl rfl (rem8 (by omega)) (by omega) (by decide) ?_
  refine RD.areturn (pc := 17) dX5_fileAt_17 rfl ?_
  exact ⟨rfl, rfl⟩


/-- the file is there -/
def thr (D : DT) (n : Nat) : Bool := !decide (D (12, n / 8, n % 8) 2 = 0)
/-- there is such a cell of such a file -/
def fcB (D : DT) (k i : Int32) : Bool := inR k 64 && (inR i 8 && thr D k.toNatClampNeg)
theorem fcB_k {D : DT} {k i : Int32} (h : inR k 64 = false) : fcB D k i = false := by rw [fcB, h, Bool.false_and]
theorem fcB_i {D : DT} {k i : Int32} (h : inR i 8 = false) : fcB D k i = false := by rw [fcB, h, Bool.false_and, Bool.and_false]
theorem fcB_nI {D : DT} {n e : Nat} (hn : n < 64) (he : e < 8) : fcB D (nI n) (nI e) = thr D n := by
  rw [fcB, inR_nI (by decide) hn, inR_nI (by decide) he, nI_clamp (by omega), Bool.true_and, Bool.true_and]
theorem fcB_t {D : DT} {k i : Int32} (h : fcB D k i = true) : ∃ n e, n < 64 ∧ e < 8 ∧ k = nI n ∧ i = nI e ∧ thr D n = true := by
  simp only [fcB, Bool.and_eq_true] at h
  obtain ⟨h1, h2, h3⟩ := h
  obtain ⟨n, hn, rfl⟩ := inR_t (by decide) h1
  obtain ⟨e, he, rfl⟩ := inR_t (by decide) h2
  rw [nI_clamp (by omega)] at h3
  exact ⟨n, e, hn, he, rfl, rfl, h3⟩

set_option maxRecDepth 20000 in
set_option maxHeartbeats 1000000 in
theorem c_isFileCell (K : EK) (d : Nat) (D : DT) (k i : Int32) : CF K mX5_isFileCell (d + 1) [rR (0, 0, 0), rI k, rI i] D (some (rI (bI (fcB D k i)))) D := by
  refine CF.of [some (rR (0, 0, 0)), some (rI k), some (rI i)] (by decide) (leb rfl) rfl ?_
  refine RD.iload_n (pc := 0) dX5_isFileCell_0 rfl ?_
  refine RD.cS1 (pc := 1) dX5_isFileCell_1 mlX5_57 (c_isFile K _ D k) (leb rfl) ?_
  refine RD.if_eq (pc := 4) 32 dX5_isFileCell_4 (by decide) (fun c4 => ?_) (fun c4 => ?_)
  · refine RD.iconst (pc := 32) (v := 0) dX5_isFileCell_32 (by decide) ?_
    refine RD.ireturn (pc := 33) dX5_isFileCell_33 rfl rfl ?_
    exact ⟨by rw [fcB_k (bI_0 c4)]; rfl, rfl⟩
  · refine RD.iload_n (pc := 7) dX5_isFileCell_7 rfl ?_
    refine RD.if_lt (pc := 8) 32 dX5_isFileCell_8 (by decide) (fun c8 => ?_) (fun c8 => ?_)
    · refine RD.iconst (pc := 32) (v := 0) dX5_isFileCell_32 (by decide) ?_
      refine RD.ireturn (pc := 33) dX5_isFileCell_33 rfl rfl ?_
      exact ⟨by rw [fcB_i (inR_neg c8)]; rfl, rfl⟩
    · refine RD.iload_n (pc := 11) dX5_isFileCell_11 rfl ?_
      refine RD.bipush (pc := 12) (v := 8) dX5_isFileCell_12 (by decide) ?_
      refine RD.icmp_ge (pc := 14) 32 dX5_isFileCell_14 (by decide) (fun c14 => ?_) (fun c14 => ?_)
      · refine RD.iconst (pc := 32) (v := 0) dX5_isFileCell_32 (by decide) ?_
        refine RD.ireturn (pc := 33) dX5_isFileCell_33 rfl rfl ?_
        exact ⟨by rw [fcB_i (inR_big (N := 8) c14)]; rfl, rfl⟩
      · obtain ⟨n, hn, rfl⟩ := inR_t (N := 64) (by decide) (bI_1 c4)
        obtain ⟨e, he, rfl⟩ := inR_n (N := 8) c8 c14 (by decide)
        refine RD.aload_n (pc := 17) dX5_isFileCell_17 rfl ?_
        refine RD.iload_n (pc := 18) dX5_isFileCell_18 rfl ?_
        refine RD.cV1 (pc := 19) dX5_isFileCell_19 mlX5_60 rfl ok0 rfl (c_fileAt K _ D hn) (leb rfl) ?_
        refine RD.gI (pc := 22) (v := D (12, n / 8, n % 8) 2) rfl dX5_isFileCell_22 flX5_64 (ok12 (by omega) (by omega)) rfl rfl ?_
        refine RD.if_eq (pc := 25) 32 dX5_isFileCell_25 (by decide) (fun c25 => ?_) (fun c25 => ?_)
        · refine RD.iconst (pc := 32) (v := 0) dX5_isFileCell_32 (by decide) ?_
          refine RD.ireturn (pc := 33) dX5_isFileCell_33 rfl rfl ?_
          exact ⟨by rw [fcB_nI hn he, thr, decide_eq_true c25]; rfl, rfl⟩
        · refine RD.iconst (pc := 28) (v := 1) dX5_isFileCell_28 (by decide) ?_
          refine RD.goto (pc := 29) 33 dX5_isFileCell_29 (by decide) ?_
          refine RD.ireturn (pc := 33) dX5_isFileCell_33 rfl rfl ?_
          exact ⟨by rw [fcB_nI hn he, thr, decide_eq_false c25]; rfl, rfl⟩

set_option maxRecDepth 20000 in
set_option maxHeartbeats 1000000 in
theorem c_poke (K : EK) (d : Nat) (D : DT) {s n : Nat} (hs : s < 8) (hn : n < 126) (u v w : Int32) : CF K mX5_poke (d + 1) [rR (0, 0, 0), rI (nI s), rI (nI n), rI u, rI v, rI w] D (some (rI 1)) (up (up (up D (3, s, 0) n u) (3, s, 0) (n + 1) v) (3, s, 0) (n + 2) w) := by
  refine CF.of [some (rR (0, 0, 0)), some (rI (nI s)), some (rI (nI n)), some (rI u), some (rI v), some (rI w), none] (by decide) (leb rfl) rfl ?_
  refine RD.iload_n (pc := 0) dX5_poke_0 rfl ?_
  refine RD.cS1 (pc := 1) dX5_poke_1 mlX5_29 (c_isSlot K _ D (nI s)) (leb rfl) ?_
  refine RD.if_eq (pc := 4) 17 dX5_poke_4 (by decide) (fun c4 => absurd c4 (bIin (by decide) hs)) (fun c4 => ?_)
  refine RD.iload_n (pc := 7) dX5_poke_7 rfl ?_
  refine RD.if_lt (pc := 8) 17 dX5_poke_8 (by decide) (fun c8 => absurd c8 (nI_pos (by omega))) (fun c8 => ?_)
  refine RD.iload_n (pc := 11) dX5_poke_11 rfl ?_
  refine RD.bipush (pc := 12) (v := 125) dX5_poke_12 (by decide) ?_
  refine RD.icmp_le (pc := 14) 19 dX5_poke_14 (by decide) (fun c14 => ?_) (fun c14 => absurd (nI_le (a := n) (b := 125) (by omega) (by decide)) c14)
  refine RD.aload_n (pc := 19) dX5_poke_19 rfl ?_
  refine RD.getR (pc := 20) dX5_poke_20 flX5_11 ok0 rfl rfl ?_
  refine RD.iload_n (pc := 23) dX5_poke_23 rfl ?_
  refine RD.aald (pc := 24) s dX5_poke_24 ok1 rfl rfl rfl hs (by decide) ?_
  refine RD.getR (pc := 25) dX5_poke_25 flX5_33 (ok2 hs) rfl rfl ?_
  refine RD.astore (pc := 28) (ls' := [some (rR (0, 0, 0)), some (rI (nI s)), some (rI (nI n)), some (rI u), some (rI v), some (rI w), some (rR (3, s, 0))]) dX5_poke_28 (by decide) rfl ?_
  refine RD.aload (pc := 30) dX5_poke_30 rfl ?_
  refine RD.iload_n (pc := 32) dX5_poke_32 rfl ?_
  refine RD.iload_n (pc := 33) dX5_poke_33 rfl ?_
  refine RD.iast (pc := 34) (n := 128) n dX5_poke_34 (ok3 hs) rfl rfl (by omega) (by decide) ?_
  refine RD.aload (pc := 35) dX5_poke_35 rfl ?_
  refine RD.iload_n (pc := 37) dX5_poke_37 rfl ?_
  refine RD.iconst (pc := 38) (v := 1) dX5_poke_38 (by decide) ?_
  refine RD.iadd (pc := 39) dX5_poke_39 ?_
  refine RD.iload (pc := 40) dX5_poke_40 rfl ?_
  refine RD.iast (pc := 42) (n := 128) (n + 1) dX5_poke_42 (ok3 hs) rfl (nI_1 n) (by omega) (by decide) ?_
  refine RD.aload (pc := 43) dX5_poke_43 rfl ?_
  refine RD.iload_n (pc := 45) dX5_poke_45 rfl ?_
  refine RD.iconst (pc := 46) (v := 2) dX5_poke_46 (by decide) ?_
  refine RD.iadd (pc := 47) dX5_poke_47 ?_
  refine RD.iload (pc := 48) dX5_poke_48 rfl ?_
  refine RD.iast (pc := 50) (n := 128) (n + 2) dX5_poke_50 (ok3 hs) rfl (nI_add n 2) (by omega) (by decide) ?_
  refine RD.iconst (pc := 51) (v := 1) dX5_poke_51 (by decide) ?_
  refine RD.ireturn (pc := 52) dX5_poke_52 rfl rfl ?_
  exact ⟨rfl, rfl⟩


theorem le_in {x : Int32} {n : Nat} (hn : n < 2 ^ 30) (h : ¬ x < 0) (h2 : x ≤ nI n) : inR x (n + 1) = true := by
  obtain ⟨j, hj, rfl⟩ := nI_of2 (nI_toInt (by omega)) h h2
  exact inR_nI (by omega) (by omega)
theorem nle_in {x : Int32} {n : Nat} (hn : n < 2 ^ 30) (h2 : ¬ x ≤ nI n) : inR x (n + 1) = false := by
  cases hq : inR x (n + 1) with
  | false => rfl
  | true =>
    obtain ⟨j, hj, rfl⟩ := inR_t (by omega) hq
    exact absurd (nI_le (by omega) (by omega)) h2

set_option maxRecDepth 20000 in
set_option maxHeartbeats 1000000 in
theorem c_pokeN (K : EK) (d : Nat) (D : DT) (a b u v w : Int32) (h : ¬ (inR a 8 = true ∧ inR b 126 = true)) : CF K mX5_poke (d + 1) [rR (0, 0, 0), rI a, rI b, rI u, rI v, rI w] D (some (rI (-1))) D := by
  refine CF.of [some (rR (0, 0, 0)), some (rI a), some (rI b), some (rI u), some (rI v), some (rI w), none] (by decide) (leb rfl) rfl ?_
  refine RD.iload_n (pc := 0) dX5_poke_0 rfl ?_
  refine RD.cS1 (pc := 1) dX5_poke_1 mlX5_29 (c_isSlot K _ D a) (leb rfl) ?_
  refine RD.if_eq (pc := 4) 17 dX5_poke_4 (by decide) (fun c4 => ?_) (fun c4 => ?_)
  · refine RD.iconst (pc := 17) (v := (-1)) dX5_poke_17 (by decide) ?_
    refine RD.ireturn (pc := 18) dX5_poke_18 rfl rfl ?_
    exact ⟨rfl, rfl⟩
  · refine RD.iload_n (pc := 7) dX5_poke_7 rfl ?_
    refine RD.if_lt (pc := 8) 17 dX5_poke_8 (by decide) (fun c8 => ?_) (fun c8 => ?_)
    · refine RD.iconst (pc := 17) (v := (-1)) dX5_poke_17 (by decide) ?_
      refine RD.ireturn (pc := 18) dX5_poke_18 rfl rfl ?_
      exact ⟨rfl, rfl⟩
    · refine RD.iload_n (pc := 11) dX5_poke_11 rfl ?_
      refine RD.bipush (pc := 12) (v := 125) dX5_poke_12 (by decide) ?_
      refine RD.icmp_le (pc := 14) 19 dX5_poke_14 (by decide) (fun c14 => ?_) (fun c14 => ?_)
      · exact absurd ⟨bI_1 c4, le_in (n := 125) (by decide) c8 c14⟩ h
      · refine RD.iconst (pc := 17) (v := (-1)) dX5_poke_17 (by decide) ?_
        refine RD.ireturn (pc := 18) dX5_poke_18 rfl rfl ?_
        exact ⟨rfl, rfl⟩

set_option maxRecDepth 20000 in
set_option maxHeartbeats 1000000 in
theorem c_start (K : EK) (d : Nat) (D : DT) {s : Nat} (hs : s < 8) (h : D (2, s, 0) 4 = 0) : CF K mX5_start (d + 1) [rR (0, 0, 0), rI (nI s)] D (some (rI 1)) (up D (2, s, 0) 4 1) := by
  refine CF.of [some (rR (0, 0, 0)), some (rI (nI s))] (by decide) (leb rfl) rfl ?_
  refine RD.iload_n (pc := 0) dX5_start_0 rfl ?_
  refine RD.cS1 (pc := 1) dX5_start_1 mlX5_29 (c_isSlot K _ D (nI s)) (leb rfl) ?_
  refine RD.if_eq (pc := 4) 19 dX5_start_4 (by decide) (fun c4 => absurd c4 (bIin (by decide) hs)) (fun c4 => ?_)
  refine RD.aload_n (pc := 7) dX5_start_7 rfl ?_
  refine RD.getR (pc := 8) dX5_start_8 flX5_11 ok0 rfl rfl ?_
  refine RD.iload_n (pc := 11) dX5_start_11 rfl ?_
  refine RD.aald (pc := 12) s dX5_start_12 ok1 rfl rfl rfl hs (by decide) ?_
  refine RD.gI (pc := 13) (v := D (2, s, 0) 4) rfl dX5_start_13 flX5_37 (ok2 hs) rfl rfl ?_
  refine RD.if_eq (pc := 16) 21 dX5_start_16 (by decide) (fun c16 => ?_) (fun c16 => absurd h c16)
  refine RD.aload_n (pc := 21) dX5_start_21 rfl ?_
  refine RD.getR (pc := 22) dX5_start_22 flX5_11 ok0 rfl rfl ?_
  refine RD.iload_n (pc := 25) dX5_start_25 rfl ?_
  refine RD.aald (pc := 26) s dX5_start_26 ok1 rfl rfl rfl hs (by decide) ?_
  refine RD.iconst (pc := 27) (v := 1) dX5_start_27 (by decide) ?_
  refine RD.putf (pc := 28) dX5_start_28 fpX5_37 (ok2 hs) rfl rfl rfl rfl ?_
  refine RD.iconst (pc := 31) (v := 1) dX5_start_31 (by decide) ?_
  refine RD.ireturn (pc := 32) dX5_start_32 rfl rfl ?_
  exact ⟨rfl, rfl⟩

set_option maxRecDepth 20000 in
set_option maxHeartbeats 1000000 in
theorem c_startN (K : EK) (d : Nat) (D : DT) (a : Int32) (h : ∀ s, s < 8 → a = nI s → ¬ D (2, s, 0) 4 = 0) : CF K mX5_start (d + 1) [rR (0, 0, 0), rI a] D (some (rI (-1))) D := by
  refine CF.of [some (rR (0, 0, 0)), some (rI a)] (by decide) (leb rfl) rfl ?_
  refine RD.iload_n (pc := 0) dX5_start_0 rfl ?_
  refine RD.cS1 (pc := 1) dX5_start_1 mlX5_29 (c_isSlot K _ D a) (leb rfl) ?_
  refine RD.if_eq (pc := 4) 19 dX5_start_4 (by decide) (fun c4 => ?_) (fun c4 => ?_)
  · refine RD.iconst (pc := 19) (v := (-1)) dX5_start_19 (by decide) ?_
    refine RD.ireturn (pc := 20) dX5_start_20 rfl rfl ?_
    exact ⟨rfl, rfl⟩
  · obtain ⟨s, hs, rfl⟩ := inR_t (N := 8) (by decide) (bI_1 c4)
    refine RD.aload_n (pc := 7) dX5_start_7 rfl ?_
    refine RD.getR (pc := 8) dX5_start_8 flX5_11 ok0 rfl rfl ?_
    refine RD.iload_n (pc := 11) dX5_start_11 rfl ?_
    refine RD.aald (pc := 12) s dX5_start_12 ok1 rfl rfl rfl hs (by decide) ?_
    refine RD.gI (pc := 13) (v := D (2, s, 0) 4) rfl dX5_start_13 flX5_37 (ok2 hs) rfl rfl ?_
    refine RD.if_eq (pc := 16) 21 dX5_start_16 (by decide) (fun c16 => ?_) (fun c16 => ?_)
    · exact absurd c16 (h s hs rfl)
    · refine RD.iconst (pc := 19) (v := (-1)) dX5_start_19 (by decide) ?_
      refine RD.ireturn (pc := 20) dX5_start_20 rfl rfl ?_
      exact ⟨rfl, rfl⟩

set_option maxRecDepth 20000 in
set_option maxHeartbeats 1000000 in
theorem c_counterN (K : EK) (d : Nat) (D : DT) (a b : Int32) (h : ¬ (inR a 8 = true ∧ inR b 33 = true)) : CF K mX5_counter (d + 1) [rR (0, 0, 0), rI a, rI b] D (some (rI (-1))) D := by
  refine CF.of [some (rR (0, 0, 0)), some (rI a), some (rI b), none] (by decide) (leb rfl) rfl ?_
  refine RD.iload_n (pc := 0) dX5_counter_0 rfl ?_
  refine RD.cS1 (pc := 1) dX5_counter_1 mlX5_29 (c_isSlot K _ D a) (leb rfl) ?_
  refine RD.if_eq (pc := 4) 17 dX5_counter_4 (by decide) (fun c4 => ?_) (fun c4 => ?_)
  · refine RD.iconst (pc := 17) (v := (-1)) dX5_counter_17 (by decide) ?_
    refine RD.ireturn (pc := 18) dX5_counter_18 rfl rfl ?_
    exact ⟨rfl, rfl⟩
  · refine RD.iload_n (pc := 7) dX5_counter_7 rfl ?_
    refine RD.if_lt (pc := 8) 17 dX5_counter_8 (by decide) (fun c8 => ?_) (fun c8 => ?_)
    · refine RD.iconst (pc := 17) (v := (-1)) dX5_counter_17 (by decide) ?_
      refine RD.ireturn (pc := 18) dX5_counter_18 rfl rfl ?_
      exact ⟨rfl, rfl⟩
    · refine RD.iload_n (pc := 11) dX5_counter_11 rfl ?_
      refine RD.bipush (pc := 12) (v := 32) dX5_counter_12 (by decide) ?_
      refine RD.icmp_le (pc := 14) 19 dX5_counter_14 (by decide) (fun c14 => ?_) (fun c14 => ?_)
      · exact absurd ⟨bI_1 c4, le_in (n := 32) (by decide) c8 c14⟩ h
      · refine RD.iconst (pc := 17) (v := (-1)) dX5_counter_17 (by decide) ?_
        refine RD.ireturn (pc := 18) dX5_counter_18 rfl rfl ?_
        exact ⟨rfl, rfl⟩

set_option maxRecDepth 20000 in
set_option maxHeartbeats 1000000 in
theorem c_counter2 (K : EK) (d : Nat) (D : DT) {s n : Nat} (hs : s < 8) (hn : n < 33) (h : nI n < D (2, s, 0) 6) : CF K mX5_counter (d + 1) [rR (0, 0, 0), rI (nI s), rI (nI n)] D (some (rI (-2))) D := by
  refine CF.of [some (rR (0, 0, 0)), some (rI (nI s)), some (rI (nI n)), none] (by decide) (leb rfl) rfl ?_
  refine RD.iload_n (pc := 0) dX5_counter_0 rfl ?_
  refine RD.cS1 (pc := 1) dX5_counter_1 mlX5_29 (c_isSlot K _ D (nI s)) (leb rfl) ?_
  refine RD.if_eq (pc := 4) 17 dX5_counter_4 (by decide) (fun c4 => absurd c4 (bIin (by decide) hs)) (fun c4 => ?_)
  refine RD.iload_n (pc := 7) dX5_counter_7 rfl ?_
  refine RD.if_lt (pc := 8) 17 dX5_counter_8 (by decide) (fun c8 => absurd c8 (nI_pos (by omega))) (fun c8 => ?_)
  refine RD.iload_n (pc := 11) dX5_counter_11 rfl ?_
  refine RD.bipush (pc := 12) (v := 32) dX5_counter_12 (by decide) ?_
  refine RD.icmp_le (pc := 14) 19 dX5_counter_14 (by decide) (fun c14 => ?_) (fun c14 => absurd (nI_le (a := n) (b := 32) (by omega) (by decide)) c14)
  refine RD.aload_n (pc := 19) dX5_counter_19 rfl ?_
  refine RD.getR (pc := 20) dX5_counter_20 flX5_11 ok0 rfl rfl ?_
  refine RD.iload_n (pc := 23) dX5_counter_23 rfl ?_
  refine RD.aald (pc := 24) s dX5_counter_24 ok1 rfl rfl rfl hs (by decide) ?_
  refine RD.gI (pc := 25) (v := D (2, s, 0) 6) rfl dX5_counter_25 flX5_40 (ok2 hs) rfl rfl ?_
  refine RD.istore_n (pc := 28) (ls' := [some (rR (0, 0, 0)), some (rI (nI s)), some (rI (nI n)), some (rI (D (2, s, 0) 6))]) dX5_counter_28 (by decide) rfl ?_
  refine RD.iload_n (pc := 29) dX5_counter_29 rfl ?_
  refine RD.iload_n (pc := 30) dX5_counter_30 rfl ?_
  refine RD.icmp_ge (pc := 31) 37 dX5_counter_31 (by decide) (fun c31 => absurd c31 (Int32.not_le.mpr h)) (fun c31 => ?_)
  refine RD.bipush (pc := 34) (v := (-2)) dX5_counter_34 (by decide) ?_
  refine RD.ireturn (pc := 36) dX5_counter_36 rfl rfl ?_
  exact ⟨rfl, rfl⟩

set_option maxRecDepth 20000 in
set_option maxHeartbeats 1000000 in
theorem c_counter (K : EK) (d : Nat) (D : DT) {s n : Nat} (hs : s < 8) (hn : n < 33) (h : ¬ nI n < D (2, s, 0) 6) : CF K mX5_counter (d + 1) [rR (0, 0, 0), rI (nI s), rI (nI n)] D (some (rI (D (2, s, 0) 6))) (up D (2, s, 0) 6 (nI n)) := by
  refine CF.of [some (rR (0, 0, 0)), some (rI (nI s)), some (rI (nI n)), none] (by decide) (leb rfl) rfl ?_
  refine RD.iload_n (pc := 0) dX5_counter_0 rfl ?_
  refine RD.cS1 (pc := 1) dX5_counter_1 mlX5_29 (c_isSlot K _ D (nI s)) (leb rfl) ?_
  refine RD.if_eq (pc := 4) 17 dX5_counter_4 (by decide) (fun c4 => absurd c4 (bIin (by decide) hs)) (fun c4 => ?_)
  refine RD.iload_n (pc := 7) dX5_counter_7 rfl ?_
  refine RD.if_lt (pc := 8) 17 dX5_counter_8 (by decide) (fun c8 => absurd c8 (nI_pos (by omega))) (fun c8 => ?_)
  refine RD.iload_n (pc := 11) dX5_counter_11 rfl ?_
  refine RD.bipush (pc := 12) (v := 32) dX5_counter_12 (by decide) ?_
  refine RD.icmp_le (pc := 14) 19 dX5_counter_14 (by decide) (fun c14 => ?_) (fun c14 => absurd (nI_le (a := n) (b := 32) (by omega) (by decide)) c14)
  refine RD.aload_n (pc := 19) dX5_counter_19 rfl ?_
  refine RD.getR (pc := 20) dX5_counter_20 flX5_11 ok0 rfl rfl ?_
  refine RD.iload_n (pc := 23) dX5_counter_23 rfl ?_
  refine RD.aald (pc := 24) s dX5_counter_24 ok1 rfl rfl rfl hs (by decide) ?_
  refine RD.gI (pc := 25) (v := D (2, s, 0) 6) rfl dX5_counter_25 flX5_40 (ok2 hs) rfl rfl ?_
  refine RD.istore_n (pc := 28) (ls' := [some (rR (0, 0, 0)), some (rI (nI s)), some (rI (nI n)), some (rI (D (2, s, 0) 6))]) dX5_counter_28 (by decide) rfl ?_
  refine RD.iload_n (pc := 29) dX5_counter_29 rfl ?_
  refine RD.iload_n (pc := 30) dX5_counter_30 rfl ?_
  refine RD.icmp_ge (pc := 31) 37 dX5_counter_31 (by decide) (fun c31 => ?_) (fun c31 => absurd (i32_nlt h) c31)
  refine RD.aload_n (pc := 37) dX5_counter_37 rfl ?_
  refine RD.getR (pc := 38) dX5_counter_38 flX5_11 ok0 rfl rfl ?_
  refine RD.iload_n (pc := 41) dX5_counter_41 rfl ?_
  refine RD.aald (pc := 42) s dX5_counter_42 ok1 rfl rfl rfl hs (by decide) ?_
  refine RD.iload_n (pc := 43) dX5_counter_43 rfl ?_
  refine RD.putf (pc := 44) dX5_counter_44 fpX5_40 (ok2 hs) rfl rfl rfl rfl ?_
  refine RD.iload_n (pc := 47) dX5_counter_47 rfl ?_
  refine RD.ireturn (pc := 48) dX5_counter_48 rfl rfl ?_
  exact ⟨rfl, rfl⟩

set_option maxRecDepth 20000 in
set_option maxHeartbeats 1000000 in
theorem c_tagN (K : EK) (d : Nat) (D : DT) (a t b : Int32) (h : ¬ (inR a 8 = true ∧ thB D t = true)) : CF K mX5_tag (d + 3) [rR (0, 0, 0), rI a, rI t, rI b] D (some (rI (-1))) D := by
  refine CF.of [some (rR (0, 0, 0)), some (rI a), some (rI t), some (rI b)] (by decide) (leb rfl) rfl ?_
  refine RD.iload_n (pc := 0) dX5_tag_0 rfl ?_
  refine RD.cS1 (pc := 1) dX5_tag_1 mlX5_29 (c_isSlot K _ D a) (leb rfl) ?_
  refine RD.if_eq (pc := 4) 15 dX5_tag_4 (by decide) (fun c4 => ?_) (fun c4 => ?_)
  · refine RD.iconst (pc := 15) (v := (-1)) dX5_tag_15 (by decide) ?_
    refine RD.ireturn (pc := 16) dX5_tag_16 rfl rfl ?_
    exact ⟨rfl, rfl⟩
  · refine RD.aload_n (pc := 7) dX5_tag_7 rfl ?_
    refine RD.iload_n (pc := 8) dX5_tag_8 rfl ?_
    refine RD.cV1 (pc := 9) dX5_tag_9 mlX5_43 rfl ok0 rfl (c_isThere K _ D t) (leb rfl) ?_
    refine RD.if_ne (pc := 12) 17 dX5_tag_12 (by decide) (fun c12 => ?_) (fun c12 => ?_)
    · exact absurd ⟨bI_1 c4, bI_1 c12⟩ h
    · refine RD.iconst (pc := 15) (v := (-1)) dX5_tag_15 (by decide) ?_
      refine RD.ireturn (pc := 16) dX5_tag_16 rfl rfl ?_
      exact ⟨rfl, rfl⟩

set_option maxRecDepth 20000 in
set_option maxHeartbeats 1000000 in
theorem c_tag (K : EK) (d : Nat) (D : DT) {s : Nat} (hs : s < 8) (t b : Int32) (h : thB D t = true) : CF K mX5_tag (d + 3) [rR (0, 0, 0), rI (nI s), rI t, rI b] D (some (rI (chgR D s 0 t b 16))) (chgD D s 0 t b 16) := by
  refine CF.of [some (rR (0, 0, 0)), some (rI (nI s)), some (rI t), some (rI b)] (by decide) (leb rfl) rfl ?_
  refine RD.iload_n (pc := 0) dX5_tag_0 rfl ?_
  refine RD.cS1 (pc := 1) dX5_tag_1 mlX5_29 (c_isSlot K _ D (nI s)) (leb rfl) ?_
  refine RD.if_eq (pc := 4) 15 dX5_tag_4 (by decide) (fun c4 => absurd c4 (bIin (by decide) hs)) (fun c4 => ?_)
  refine RD.aload_n (pc := 7) dX5_tag_7 rfl ?_
  refine RD.iload_n (pc := 8) dX5_tag_8 rfl ?_
  refine RD.cV1 (pc := 9) dX5_tag_9 mlX5_43 rfl ok0 rfl (c_isThere K _ D t) (leb rfl) ?_
  refine RD.if_ne (pc := 12) 17 dX5_tag_12 (by decide) (fun c12 => ?_) (fun c12 => absurd c12 (by rw [h]; decide))
  refine RD.aload_n (pc := 17) dX5_tag_17 rfl ?_
  refine RD.getR (pc := 18) dX5_tag_18 flX5_11 ok0 rfl rfl ?_
  refine RD.iload_n (pc := 21) dX5_tag_21 rfl ?_
  refine RD.aald (pc := 22) s dX5_tag_22 ok1 rfl rfl rfl hs (by decide) ?_
  refine RD.getR (pc := 23) dX5_tag_23 flX5_46 (ok2 hs) rfl rfl ?_
  refine RD.iload_n (pc := 26) dX5_tag_26 rfl ?_
  refine RD.iload_n (pc := 27) dX5_tag_27 rfl ?_
  refine RD.bipush (pc := 28) (v := 16) dX5_tag_28 (by decide) ?_
  refine RD.cV3 (pc := 30) dX5_tag_30 mlX5_49 rfl (ok4 hs (by decide)) rfl (c_change K _ (ok4 hs (by decide)) D t b 16) (leb rfl) ?_
  refine RD.ireturn (pc := 33) dX5_tag_33 rfl rfl ?_
  exact ⟨rfl, rfl⟩

set_option maxRecDepth 20000 in
set_option maxHeartbeats 1000000 in
theorem c_capabilityN (K : EK) (d : Nat) (D : DT) (a k t b : Int32) (h : ¬ (inR a 8 = true ∧ (k = 0 ∨ k = 1) ∧ thB D t = true)) : CF K mX5_capability (d + 3) [rR (0, 0, 0), rI a, rI k, rI t, rI b] D (some (rI (-1))) D := by
  refine CF.of [some (rR (0, 0, 0)), some (rI a), some (rI k), some (rI t), some (rI b)] (by decide) (leb rfl) rfl ?_
  refine RD.iload_n (pc := 0) dX5_capability_0 rfl ?_
  refine RD.cS1 (pc := 1) dX5_capability_1 mlX5_29 (c_isSlot K _ D a) (leb rfl) ?_
  refine RD.if_eq (pc := 4) 24 dX5_capability_4 (by decide) (fun c4 => ?_) (fun c4 => ?_)
  · refine RD.iconst (pc := 24) (v := (-1)) dX5_capability_24 (by decide) ?_
    refine RD.ireturn (pc := 25) dX5_capability_25 rfl rfl ?_
    exact ⟨rfl, rfl⟩
  · refine RD.iload_n (pc := 7) dX5_capability_7 rfl ?_
    refine RD.if_eq (pc := 8) 16 dX5_capability_8 (by decide) (fun c8 => ?_) (fun c8 => ?_)
    · refine RD.aload_n (pc := 16) dX5_capability_16 rfl ?_
      refine RD.iload_n (pc := 17) dX5_capability_17 rfl ?_
      refine RD.cV1 (pc := 18) dX5_capability_18 mlX5_43 rfl ok0 rfl (c_isThere K _ D t) (leb rfl) ?_
      refine RD.if_ne (pc := 21) 26 dX5_capability_21 (by decide) (fun c21 => ?_) (fun c21 => ?_)
      · exact absurd ⟨bI_1 c4, Or.inl c8, bI_1 c21⟩ h
      · refine RD.iconst (pc := 24) (v := (-1)) dX5_capability_24 (by decide) ?_
        refine RD.ireturn (pc := 25) dX5_capability_25 rfl rfl ?_
        exact ⟨rfl, rfl⟩
    · refine RD.iload_n (pc := 11) dX5_capability_11 rfl ?_
      refine RD.iconst (pc := 12) (v := 1) dX5_capability_12 (by decide) ?_
      refine RD.icmp_ne (pc := 13) 24 dX5_capability_13 (by decide) (fun c13 => ?_) (fun c13 => ?_)
      · refine RD.iconst (pc := 24) (v := (-1)) dX5_capability_24 (by decide) ?_
        refine RD.ireturn (pc := 25) dX5_capability_25 rfl rfl ?_
        exact ⟨rfl, rfl⟩
      · refine RD.aload_n (pc := 16) dX5_capability_16 rfl ?_
        refine RD.iload_n (pc := 17) dX5_capability_17 rfl ?_
        refine RD.cV1 (pc := 18) dX5_capability_18 mlX5_43 rfl ok0 rfl (c_isThere K _ D t) (leb rfl) ?_
        refine RD.if_ne (pc := 21) 26 dX5_capability_21 (by decide) (fun c21 => ?_) (fun c21 => ?_)
        · exact absurd ⟨bI_1 c4, Or.inr c13, bI_1 c21⟩ h
        · refine RD.iconst (pc := 24) (v := (-1)) dX5_capability_24 (by decide) ?_
          refine RD.ireturn (pc := 25) dX5_capability_25 rfl rfl ?_
          exact ⟨rfl, rfl⟩

set_option maxRecDepth 20000 in
set_option maxHeartbeats 1000000 in
theorem c_capability0 (K : EK) (d : Nat) (D : DT) {s : Nat} (hs : s < 8) (t b : Int32) (h : thB D t = true) : CF K mX5_capability (d + 3) [rR (0, 0, 0), rI (nI s), rI 0, rI t, rI b] D (some (rI (chgR D s 1 t b 40))) (chgD D s 1 t b 40) := by
  refine CF.of [some (rR (0, 0, 0)), some (rI (nI s)), some (rI 0), some (rI t), some (rI b)] (by decide) (leb rfl) rfl ?_
  refine RD.iload_n (pc := 0) dX5_capability_0 rfl ?_
  refine RD.cS1 (pc := 1) dX5_capability_1 mlX5_29 (c_isSlot K _ D (nI s)) (leb rfl) ?_
  refine RD.if_eq (pc := 4) 24 dX5_capability_4 (by decide) (fun c4 => absurd c4 (bIin (by decide) hs)) (fun c4 => ?_)
  refine RD.iload_n (pc := 7) dX5_capability_7 rfl ?_
  refine RD.if_eq (pc := 8) 16 dX5_capability_8 (by decide) (fun c8 => ?_) (fun c8 => absurd rfl c8)
  refine RD.aload_n (pc := 16) dX5_capability_16 rfl ?_
  refine RD.iload_n (pc := 17) dX5_capability_17 rfl ?_
  refine RD.cV1 (pc := 18) dX5_capability_18 mlX5_43 rfl ok0 rfl (c_isThere K _ D t) (leb rfl) ?_
  refine RD.if_ne (pc := 21) 26 dX5_capability_21 (by decide) (fun c21 => ?_) (fun c21 => absurd c21 (by rw [h]; decide))
  refine RD.aload_n (pc := 26) dX5_capability_26 rfl ?_
  refine RD.getR (pc := 27) dX5_capability_27 flX5_11 ok0 rfl rfl ?_
  refine RD.iload_n (pc := 30) dX5_capability_30 rfl ?_
  refine RD.aald (pc := 31) s dX5_capability_31 ok1 rfl rfl rfl hs (by decide) ?_
  refine RD.iload_n (pc := 32) dX5_capability_32 rfl ?_
  refine RD.cV1 (pc := 33) dX5_capability_33 mlX5_53 rfl (ok2 hs) rfl (c_cap0 K _ hs D) (leb rfl) ?_
  refine RD.iload_n (pc := 36) dX5_capability_36 rfl ?_
  refine RD.iload (pc := 37) dX5_capability_37 rfl ?_
  refine RD.bipush (pc := 39) (v := 40) dX5_capability_39 (by decide) ?_
  refine RD.cV3 (pc := 41) dX5_capability_41 mlX5_49 rfl (ok4 hs (by decide)) rfl (c_change K _ (ok4 hs (by decide)) D t b 40) (leb rfl) ?_
  refine RD.ireturn (pc := 44) dX5_capability_44 rfl rfl ?_
  exact ⟨rfl, rfl⟩

set_option maxRecDepth 20000 in
set_option maxHeartbeats 1000000 in
theorem c_capability1 (K : EK) (d : Nat) (D : DT) {s : Nat} (hs : s < 8) (t b : Int32) (h : thB D t = true) : CF K mX5_capability (d + 3) [rR (0, 0, 0), rI (nI s), rI 1, rI t, rI b] D (some (rI (chgR D s 2 t b 40))) (chgD D s 2 t b 40) := by
  refine CF.of [some (rR (0, 0, 0)), some (rI (nI s)), some (rI 1), some (rI t), some (rI b)] (by decide) (leb rfl) rfl ?_
  refine RD.iload_n (pc := 0) dX5_capability_0 rfl ?_
  refine RD.cS1 (pc := 1) dX5_capability_1 mlX5_29 (c_isSlot K _ D (nI s)) (leb rfl) ?_
  refine RD.if_eq (pc := 4) 24 dX5_capability_4 (by decide) (fun c4 => absurd c4 (bIin (by decide) hs)) (fun c4 => ?_)
  refine RD.iload_n (pc := 7) dX5_capability_7 rfl ?_
  refine RD.if_eq (pc := 8) 16 dX5_capability_8 (by decide) (fun c8 => absurd c8 (by decide)) (fun c8 => ?_)
  refine RD.iload_n (pc := 11) dX5_capability_11 rfl ?_
  refine RD.iconst (pc := 12) (v := 1) dX5_capability_12 (by decide) ?_
  refine RD.icmp_ne (pc := 13) 24 dX5_capability_13 (by decide) (fun c13 => absurd rfl c13) (fun c13 => ?_)
  refine RD.aload_n (pc := 16) dX5_capability_16 rfl ?_
  refine RD.iload_n (pc := 17) dX5_capability_17 rfl ?_
  refine RD.cV1 (pc := 18) dX5_capability_18 mlX5_43 rfl ok0 rfl (c_isThere K _ D t) (leb rfl) ?_
  refine RD.if_ne (pc := 21) 26 dX5_capability_21 (by decide) (fun c21 => ?_) (fun c21 => absurd c21 (by rw [h]; decide))
  refine RD.aload_n (pc := 26) dX5_capability_26 rfl ?_
  refine RD.getR (pc := 27) dX5_capability_27 flX5_11 ok0 rfl rfl ?_
  refine RD.iload_n (pc := 30) dX5_capability_30 rfl ?_
  refine RD.aald (pc := 31) s dX5_capability_31 ok1 rfl rfl rfl hs (by decide) ?_
  refine RD.iload_n (pc := 32) dX5_capability_32 rfl ?_
  refine RD.cV1 (pc := 33) dX5_capability_33 mlX5_53 rfl (ok2 hs) rfl (c_cap1 K _ hs D (by decide)) (leb rfl) ?_
  refine RD.iload_n (pc := 36) dX5_capability_36 rfl ?_
  refine RD.iload (pc := 37) dX5_capability_37 rfl ?_
  refine RD.bipush (pc := 39) (v := 40) dX5_capability_39 (by decide) ?_
  refine RD.cV3 (pc := 41) dX5_capability_41 mlX5_49 rfl (ok4 hs (by decide)) rfl (c_change K _ (ok4 hs (by decide)) D t b 40) (leb rfl) ?_
  refine RD.ireturn (pc := 44) dX5_capability_44 rfl rfl ?_
  exact ⟨rfl, rfl⟩

set_option maxRecDepth 20000 in
set_option maxHeartbeats 1000000 in
theorem c_fileN (K : EK) (d : Nat) (D : DT) (k t : Int32) (h : ¬ (inR k 64 = true ∧ (t < 0 ∨ thB D t = true))) : CF K mX5_file (d + 3) [rR (0, 0, 0), rI k, rI t] D (some (rI (-1))) D := by
  refine CF.of [some (rR (0, 0, 0)), some (rI k), some (rI t), none] (by decide) (leb rfl) rfl ?_
  refine RD.iload_n (pc := 0) dX5_file_0 rfl ?_
  refine RD.cS1 (pc := 1) dX5_file_1 mlX5_57 (c_isFile K _ D k) (leb rfl) ?_
  refine RD.if_eq (pc := 4) 19 dX5_file_4 (by decide) (fun c4 => ?_) (fun c4 => ?_)
  · refine RD.iconst (pc := 19) (v := (-1)) dX5_file_19 (by decide) ?_
    refine RD.ireturn (pc := 20) dX5_file_20 rfl rfl ?_
    exact ⟨rfl, rfl⟩
  · refine RD.iload_n (pc := 7) dX5_file_7 rfl ?_
    refine RD.if_lt (pc := 8) 21 dX5_file_8 (by decide) (fun c8 => ?_) (fun c8 => ?_)
    · exact absurd ⟨bI_1 c4, Or.inl c8⟩ h
    · refine RD.aload_n (pc := 11) dX5_file_11 rfl ?_
      refine RD.iload_n (pc := 12) dX5_file_12 rfl ?_
      refine RD.cV1 (pc := 13) dX5_file_13 mlX5_43 rfl ok0 rfl (c_isThere K _ D t) (leb rfl) ?_
      refine RD.if_ne (pc := 16) 21 dX5_file_16 (by decide) (fun c16 => ?_) (fun c16 => ?_)
      · exact absurd ⟨bI_1 c4, Or.inr (bI_1 c16)⟩ h
      · refine RD.iconst (pc := 19) (v := (-1)) dX5_file_19 (by decide) ?_
        refine RD.ireturn (pc := 20) dX5_file_20 rfl rfl ?_
        exact ⟨rfl, rfl⟩

set_option maxRecDepth 20000 in
set_option maxHeartbeats 1000000 in
theorem c_file1 (K : EK) (d : Nat) (D : DT) {n : Nat} (hn : n < 64) (t : Int32) (ht : t < 0) : CF K mX5_file (d + 3) [rR (0, 0, 0), rI (nI n), rI t] D (some (rI (D (4, n / 8, 11 + n % 8) 1))) (up D (12, n / 8, n % 8) 2 1) := by
  refine CF.of [some (rR (0, 0, 0)), some (rI (nI n)), some (rI t), none] (by decide) (leb rfl) rfl ?_
  refine RD.iload_n (pc := 0) dX5_file_0 rfl ?_
  refine RD.cS1 (pc := 1) dX5_file_1 mlX5_57 (c_isFile K _ D (nI n)) (leb rfl) ?_
  refine RD.if_eq (pc := 4) 19 dX5_file_4 (by decide) (fun c4 => absurd c4 (bIin (by decide) hn)) (fun c4 => ?_)
  refine RD.iload_n (pc := 7) dX5_file_7 rfl ?_
  refine RD.if_lt (pc := 8) 21 dX5_file_8 (by decide) (fun c8 => ?_) (fun c8 => absurd ht c8)
  refine RD.aload_n (pc := 21) dX5_file_21 rfl ?_
  refine RD.iload_n (pc := 22) dX5_file_22 rfl ?_
  refine RD.cV1 (pc := 23) dX5_file_23 mlX5_60 rfl ok0 rfl (c_fileAt K _ D hn) (leb rfl) ?_
  refine RD.astore_n (pc := 26) (ls' := [some (rR (0, 0, 0)), some (rI (nI n)), some (rI t), some (rR (12, n / 8, n % 8))]) dX5_file_26 (by decide) rfl ?_
  refine RD.aload_n (pc := 27) dX5_file_27 rfl ?_
  refine RD.iconst (pc := 28) (v := 1) dX5_file_28 (by decide) ?_
  refine RD.putf (pc := 29) dX5_file_29 fpX5_64 (ok12 (by omega) (by omega)) rfl rfl rfl rfl ?_
  refine RD.iload_n (pc := 32) dX5_file_32 rfl ?_
  refine RD.if_ge (pc := 33) 44 dX5_file_33 (by decide) (fun c33 => absurd c33 (Int32.not_le.mpr ht)) (fun c33 => ?_)
  refine RD.aload_n (pc := 36) dX5_file_36 rfl ?_
  refine RD.getR (pc := 37) dX5_file_37 flX5_70 (ok12 (by omega) (by omega)) rfl rfl ?_
  refine RD.gI (pc := 40) (v := D (4, n / 8, 11 + n % 8) 1) (up_N (by simp) rfl) dX5_file_40 flX5_71 (ok4 (by omega) (by omega)) rfl rfl ?_
  refine RD.ireturn (pc := 43) dX5_file_43 rfl rfl ?_
  exact ⟨rfl, rfl⟩

set_option maxRecDepth 20000 in
set_option maxHeartbeats 1000000 in
theorem c_file2 (K : EK) (d : Nat) (D : DT) {n : Nat} (hn : n < 64) (t : Int32) (ht : ¬ t < 0) (h : thB D t = true) : CF K mX5_file (d + 3) [rR (0, 0, 0), rI (nI n), rI t] D (some (rI (chgR (up D (12, n / 8, n % 8) 2 1) (n / 8) (11 + n % 8) t 1 16))) (chgD (up D (12, n / 8, n % 8) 2 1) (n / 8) (11 + n % 8) t 1 16) := by
  refine CF.of [some (rR (0, 0, 0)), some (rI (nI n)), some (rI t), none] (by decide) (leb rfl) rfl ?_
  refine RD.iload_n (pc := 0) dX5_file_0 rfl ?_
  refine RD.cS1 (pc := 1) dX5_file_1 mlX5_57 (c_isFile K _ D (nI n)) (leb rfl) ?_
  refine RD.if_eq (pc := 4) 19 dX5_file_4 (by decide) (fun c4 => absurd c4 (bIin (by decide) hn)) (fun c4 => ?_)
  refine RD.iload_n (pc := 7) dX5_file_7 rfl ?_
  refine RD.if_lt (pc := 8) 21 dX5_file_8 (by decide) (fun c8 => absurd c8 ht) (fun c8 => ?_)
  refine RD.aload_n (pc := 11) dX5_file_11 rfl ?_
  refine RD.iload_n (pc := 12) dX5_file_12 rfl ?_
  refine RD.cV1 (pc := 13) dX5_file_13 mlX5_43 rfl ok0 rfl (c_isThere K _ D t) (leb rfl) ?_
  refine RD.if_ne (pc := 16) 21 dX5_file_16 (by decide) (fun c16 => ?_) (fun c16 => absurd c16 (by rw [h]; decide))
  refine RD.aload_n (pc := 21) dX5_file_21 rfl ?_
  refine RD.iload_n (pc := 22) dX5_file_22 rfl ?_
  refine RD.cV1 (pc := 23) dX5_file_23 mlX5_60 rfl ok0 rfl (c_fileAt K _ D hn) (leb rfl) ?_
  refine RD.astore_n (pc := 26) (ls' := [some (rR (0, 0, 0)), some (rI (nI n)), some (rI t), some (rR (12, n / 8, n % 8))]) dX5_file_26 (by decide) rfl ?_
  refine RD.aload_n (pc := 27) dX5_file_27 rfl ?_
  refine RD.iconst (pc := 28) (v := 1) dX5_file_28 (by decide) ?_
  refine RD.putf (pc := 29) dX5_file_29 fpX5_64 (ok12 (by omega) (by omega)) rfl rfl rfl rfl ?_
  refine RD.iload_n (pc := 32) dX5_file_32 rfl ?_
  refine RD.if_ge (pc := 33) 44 dX5_file_33 (by decide) (fun c33 => ?_) (fun c33 => absurd (i32_nlt ht) c33)
  refine RD.aload_n (pc := 44) dX5_file_44 rfl ?_
  refine RD.getR (pc := 45) dX5_file_45 flX5_70 (ok12 (by omega) (by omega)) rfl rfl ?_
  refine RD.iload_n (pc := 48) dX5_file_48 rfl ?_
  refine RD.iconst (pc := 49) (v := 1) dX5_file_49 (by decide) ?_
  refine RD.bipush (pc := 50) (v := 16) dX5_file_50 (by decide) ?_
  refine RD.cV3 (pc := 52) dX5_file_52 mlX5_49 rfl (ok4 (by omega) (by omega)) rfl (c_change K _ (ok4 (by omega) (by omega)) (up D (12, n / 8, n % 8) 2 1) t 1 16) (leb rfl) ?_
  refine RD.ireturn (pc := 55) dX5_file_55 rfl rfl ?_
  exact ⟨rfl, rfl⟩

set_option maxRecDepth 20000 in
set_option maxHeartbeats 1000000 in
theorem c_fillN (K : EK) (d : Nat) (D : DT) (k i v : Int32) (h : fcB D k i = false) : CF K mX5_fill (d + 2) [rR (0, 0, 0), rI k, rI i, rI v] D (some (rI 0)) D := by
  refine CF.of [some (rR (0, 0, 0)), some (rI k), some (rI i), some (rI v), none, none] (by decide) (leb rfl) rfl ?_
  refine RD.aload_n (pc := 0) dX5_fill_0 rfl ?_
  refine RD.iload_n (pc := 1) dX5_fill_1 rfl ?_
  refine RD.iload_n (pc := 2) dX5_fill_2 rfl ?_
  refine RD.cV2 (pc := 3) dX5_fill_3 mlX5_74 rfl ok0 rfl (c_isFileCell K _ D k i) (leb rfl) ?_
  refine RD.if_ne (pc := 6) 11 dX5_fill_6 (by decide) (fun c6 => absurd (by rw [h]; rfl) c6) (fun c6 => ?_)
  refine RD.iconst (pc := 9) (v := 0) dX5_fill_9 (by decide) ?_
  refine RD.ireturn (pc := 10) dX5_fill_10 rfl rfl ?_
  exact ⟨rfl, rfl⟩

set_option maxRecDepth 20000 in
set_option maxHeartbeats 1000000 in
theorem c_fill (K : EK) (d : Nat) (D : DT) {n e : Nat} (hn : n < 64) (he : e < 8) (v : Int32) (h : thr D n = true) : CF K mX5_fill (d + 2) [rR (0, 0, 0), rI (nI n), rI (nI e), rI v] D (some (rI (D (13, n / 8, n % 8) e))) (up D (13, n / 8, n % 8) e v) := by
  refine CF.of [some (rR (0, 0, 0)), some (rI (nI n)), some (rI (nI e)), some (rI v), none, none] (by decide) (leb rfl) rfl ?_
  refine RD.aload_n (pc := 0) dX5_fill_0 rfl ?_
  refine RD.iload_n (pc := 1) dX5_fill_1 rfl ?_
  refine RD.iload_n (pc := 2) dX5_fill_2 rfl ?_
  refine RD.cV2 (pc := 3) dX5_fill_3 mlX5_74 rfl ok0 rfl (c_isFileCell K _ D (nI n) (nI e)) (leb rfl) ?_
  refine RD.if_ne (pc := 6) 11 dX5_fill_6 (by decide) (fun c6 => ?_) (fun c6 => absurd c6 (by rw [fcB_nI hn he, h]; decide))
  refine RD.aload_n (pc := 11) dX5_fill_11 rfl ?_
  refine RD.iload_n (pc := 12) dX5_fill_12 rfl ?_
  refine RD.cV1 (pc := 13) dX5_fill_13 mlX5_60 rfl ok0 rfl (c_fileAt K _ D hn) (leb rfl) ?_
  refine RD.getR (pc := 16) dX5_fill_16 flX5_78 (ok12 (by omega) (by omega)) rfl rfl ?_
  refine RD.astore (pc := 19) (ls' := [some (rR (0, 0, 0)), some (rI (nI n)), some (rI (nI e)), some (rI v), some (rR (13, n / 8, n % 8)), none]) dX5_fill_19 (by decide) rfl ?_
  refine RD.aload (pc := 21) dX5_fill_21 rfl ?_
  refine RD.iload_n (pc := 23) dX5_fill_23 rfl ?_
  refine RD.iL (pc := 24) (n := 8) e (v := D (13, n / 8, n % 8) e) rfl dX5_fill_24 (ok13 (by omega) (by omega)) rfl rfl he (by decide) ?_
  refine RD.istore (pc := 25) (ls' := [some (rR (0, 0, 0)), some (rI (nI n)), some (rI (nI e)), some (rI v), some (rR (13, n / 8, n % 8)), some (rI (D (13, n / 8, n % 8) e))]) dX5_fill_25 (by decide) rfl ?_
  refine RD.aload (pc := 27) dX5_fill_27 rfl ?_
  refine RD.iload_n (pc := 29) dX5_fill_29 rfl ?_
  refine RD.iload_n (pc := 30) dX5_fill_30 rfl ?_
  refine RD.iast (pc := 31) (n := 8) e dX5_fill_31 (ok13 (by omega) (by omega)) rfl rfl he (by decide) ?_
  refine RD.iload (pc := 32) dX5_fill_32 rfl ?_
  refine RD.ireturn (pc := 34) dX5_fill_34 rfl rfl ?_
  exact ⟨rfl, rfl⟩

set_option maxRecDepth 20000 in
set_option maxHeartbeats 1000000 in
theorem c_contentN (K : EK) (d : Nat) (D : DT) (k i : Int32) (h : fcB D k i = false) : CF K mX5_content (d + 2) [rR (0, 0, 0), rI k, rI i] D (some (rI 0)) D := by
  refine CF.of [some (rR (0, 0, 0)), some (rI k), some (rI i)] (by decide) (leb rfl) rfl ?_
  refine RD.aload_n (pc := 0) dX5_content_0 rfl ?_
  refine RD.iload_n (pc := 1) dX5_content_1 rfl ?_
  refine RD.iload_n (pc := 2) dX5_content_2 rfl ?_
  refine RD.cV2 (pc := 3) dX5_content_3 mlX5_74 rfl ok0 rfl (c_isFileCell K _ D k i) (leb rfl) ?_
  refine RD.if_eq (pc := 6) 22 dX5_content_6 (by decide) (fun c6 => ?_) (fun c6 => absurd (by rw [h]; rfl) c6)
  refine RD.iconst (pc := 22) (v := 0) dX5_content_22 (by decide) ?_
  refine RD.ireturn (pc := 23) dX5_content_23 rfl rfl ?_
  exact ⟨rfl, rfl⟩

set_option maxRecDepth 20000 in
set_option maxHeartbeats 1000000 in
theorem c_content (K : EK) (d : Nat) (D : DT) {n e : Nat} (hn : n < 64) (he : e < 8) (h : thr D n = true) : CF K mX5_content (d + 2) [rR (0, 0, 0), rI (nI n), rI (nI e)] D (some (rI (D (13, n / 8, n % 8) e))) D := by
  refine CF.of [some (rR (0, 0, 0)), some (rI (nI n)), some (rI (nI e))] (by decide) (leb rfl) rfl ?_
  refine RD.aload_n (pc := 0) dX5_content_0 rfl ?_
  refine RD.iload_n (pc := 1) dX5_content_1 rfl ?_
  refine RD.iload_n (pc := 2) dX5_content_2 rfl ?_
  refine RD.cV2 (pc := 3) dX5_content_3 mlX5_74 rfl ok0 rfl (c_isFileCell K _ D (nI n) (nI e)) (leb rfl) ?_
  refine RD.if_eq (pc := 6) 22 dX5_content_6 (by decide) (fun c6 => absurd c6 (by rw [fcB_nI hn he, h]; decide)) (fun c6 => ?_)
  refine RD.aload_n (pc := 9) dX5_content_9 rfl ?_
  refine RD.iload_n (pc := 10) dX5_content_10 rfl ?_
  refine RD.cV1 (pc := 11) dX5_content_11 mlX5_60 rfl ok0 rfl (c_fileAt K _ D hn) (leb rfl) ?_
  refine RD.getR (pc := 14) dX5_content_14 flX5_78 (ok12 (by omega) (by omega)) rfl rfl ?_
  refine RD.iload_n (pc := 17) dX5_content_17 rfl ?_
  refine RD.iL (pc := 18) (n := 8) e (v := D (13, n / 8, n % 8) e) rfl dX5_content_18 (ok13 (by omega) (by omega)) rfl rfl he (by decide) ?_
  refine RD.goto (pc := 19) 23 dX5_content_19 (by decide) ?_
  refine RD.ireturn (pc := 23) dX5_content_23 rfl rfl ?_
  exact ⟨rfl, rfl⟩

set_option maxRecDepth 20000 in
set_option maxHeartbeats 1000000 in
theorem c_fileTagsO (K : EK) (d : Nat) (D : DT) (k : Int32) (h : inR k 64 = false) : CF K mX5_fileTags (d + 2) [rR (0, 0, 0), rI k] D (some (rI (-1))) D := by
  refine CF.of [some (rR (0, 0, 0)), some (rI k)] (by decide) (leb rfl) rfl ?_
  refine RD.iload_n (pc := 0) dX5_fileTags_0 rfl ?_
  refine RD.cS1 (pc := 1) dX5_fileTags_1 mlX5_57 (c_isFile K _ D k) (leb rfl) ?_
  refine RD.if_eq (pc := 4) 32 dX5_fileTags_4 (by decide) (fun c4 => ?_) (fun c4 => absurd (bIout h) c4)
  refine RD.iconst (pc := 32) (v := (-1)) dX5_fileTags_32 (by decide) ?_
  refine RD.ireturn (pc := 33) dX5_fileTags_33 rfl rfl ?_
  exact ⟨rfl, rfl⟩

set_option maxRecDepth 20000 in
set_option maxHeartbeats 1000000 in
theorem c_fileTagsN (K : EK) (d : Nat) (D : DT) {n : Nat} (hn : n < 64) (h : thr D n = false) : CF K mX5_fileTags (d + 2) [rR (0, 0, 0), rI (nI n)] D (some (rI (-1))) D := by
  refine CF.of [some (rR (0, 0, 0)), some (rI (nI n))] (by decide) (leb rfl) rfl ?_
  refine RD.iload_n (pc := 0) dX5_fileTags_0 rfl ?_
  refine RD.cS1 (pc := 1) dX5_fileTags_1 mlX5_57 (c_isFile K _ D (nI n)) (leb rfl) ?_
  refine RD.if_eq (pc := 4) 32 dX5_fileTags_4 (by decide) (fun c4 => absurd c4 (bIin (by decide) hn)) (fun c4 => ?_)
  refine RD.aload_n (pc := 7) dX5_fileTags_7 rfl ?_
  refine RD.iload_n (pc := 8) dX5_fileTags_8 rfl ?_
  refine RD.cV1 (pc := 9) dX5_fileTags_9 mlX5_60 rfl ok0 rfl (c_fileAt K _ D hn) (leb rfl) ?_
  refine RD.gI (pc := 12) (v := D (12, n / 8, n % 8) 2) rfl dX5_fileTags_12 flX5_64 (ok12 (by omega) (by omega)) rfl rfl ?_
  refine RD.if_eq (pc := 15) 32 dX5_fileTags_15 (by decide) (fun c15 => ?_) (fun c15 => absurd (by simpa [thr] using h) c15)
  refine RD.iconst (pc := 32) (v := (-1)) dX5_fileTags_32 (by decide) ?_
  refine RD.ireturn (pc := 33) dX5_fileTags_33 rfl rfl ?_
  exact ⟨rfl, rfl⟩

set_option maxRecDepth 20000 in
set_option maxHeartbeats 1000000 in
theorem c_fileTags (K : EK) (d : Nat) (D : DT) {n : Nat} (hn : n < 64) (h : thr D n = true) : CF K mX5_fileTags (d + 2) [rR (0, 0, 0), rI (nI n)] D (some (rI (D (4, n / 8, 11 + n % 8) 1))) D := by
  refine CF.of [some (rR (0, 0, 0)), some (rI (nI n))] (by decide) (leb rfl) rfl ?_
  refine RD.iload_n (pc := 0) dX5_fileTags_0 rfl ?_
  refine RD.cS1 (pc := 1) dX5_fileTags_1 mlX5_57 (c_isFile K _ D (nI n)) (leb rfl) ?_
  refine RD.if_eq (pc := 4) 32 dX5_fileTags_4 (by decide) (fun c4 => absurd c4 (bIin (by decide) hn)) (fun c4 => ?_)
  refine RD.aload_n (pc := 7) dX5_fileTags_7 rfl ?_
  refine RD.iload_n (pc := 8) dX5_fileTags_8 rfl ?_
  refine RD.cV1 (pc := 9) dX5_fileTags_9 mlX5_60 rfl ok0 rfl (c_fileAt K _ D hn) (leb rfl) ?_
  refine RD.gI (pc := 12) (v := D (12, n / 8, n % 8) 2) rfl dX5_fileTags_12 flX5_64 (ok12 (by omega) (by omega)) rfl rfl ?_
  refine RD.if_eq (pc := 15) 32 dX5_fileTags_15 (by decide) (fun c15 => absurd c15 (by simpa [thr] using h)) (fun c15 => ?_)
  refine RD.aload_n (pc := 18) dX5_fileTags_18 rfl ?_
  refine RD.iload_n (pc := 19) dX5_fileTags_19 rfl ?_
  refine RD.cV1 (pc := 20) dX5_fileTags_20 mlX5_60 rfl ok0 rfl (c_fileAt K _ D hn) (leb rfl) ?_
  refine RD.getR (pc := 23) dX5_fileTags_23 flX5_70 (ok12 (by omega) (by omega)) rfl rfl ?_
  refine RD.gI (pc := 26) (v := D (4, n / 8, 11 + n % 8) 1) rfl dX5_fileTags_26 flX5_71 (ok4 (by omega) (by omega)) rfl rfl ?_
  refine RD.goto (pc := 29) 33 dX5_fileTags_29 (by decide) ?_
  refine RD.ireturn (pc := 33) dX5_fileTags_33 rfl rfl ?_
  exact ⟨rfl, rfl⟩

theorem putF_z {D : DT} {i s : Nat} {v kd : Int32} {p z : Nat} : putF D i s v kd p z (6, i, 0) 2 = nI z + 1 := by rw [putF, up_s]

set_option maxRecDepth 20000 in
set_option maxHeartbeats 1000000 in
theorem c_post (K : EK) (d : Nat) (D : DT) {f t : Nat} (hf8 : f < 8) (ht8 : t < 8) (v : Int32) {p z : Nat} (hp : p < 8) (hf : D (6, t, 0) 1 = nI p) (hz : D (6, t, 0) 2 = nI z) (hz8 : z < 8) : CF K mX5_post (d + 2) [rR (0, 0, 0), rI (nI f), rI (nI t), rI v] D (some (rI (nI z + 1))) (putF D t f v (-1) p z) := by
  refine CF.of [some (rR (0, 0, 0)), some (rI (nI f)), some (rI (nI t)), some (rI v), none] (by decide) (leb rfl) rfl ?_
  refine RD.iload_n (pc := 0) dX5_post_0 rfl ?_
  refine RD.cS1 (pc := 1) dX5_post_1 mlX5_29 (c_isSlot K _ D (nI f)) (leb rfl) ?_
  refine RD.if_eq (pc := 4) 14 dX5_post_4 (by decide) (fun c4 => absurd c4 (bIin (by decide) hf8)) (fun c4 => ?_)
  refine RD.iload_n (pc := 7) dX5_post_7 rfl ?_
  refine RD.cS1 (pc := 8) dX5_post_8 mlX5_29 (c_isSlot K _ D (nI t)) (leb rfl) ?_
  refine RD.if_ne (pc := 11) 16 dX5_post_11 (by decide) (fun c11 => ?_) (fun c11 => absurd c11 (bIin (by decide) ht8))
  refine RD.aload_n (pc := 16) dX5_post_16 rfl ?_
  refine RD.getR (pc := 17) dX5_post_17 flX5_11 ok0 rfl rfl ?_
  refine RD.iload_n (pc := 20) dX5_post_20 rfl ?_
  refine RD.aald (pc := 21) t dX5_post_21 ok1 rfl rfl rfl ht8 (by decide) ?_
  refine RD.getR (pc := 22) dX5_post_22 flX5_81 (ok2 ht8) rfl rfl ?_
  refine RD.astore (pc := 25) (ls' := [some (rR (0, 0, 0)), some (rI (nI f)), some (rI (nI t)), some (rI v), some (rR (6, t, 0))]) dX5_post_25 (by decide) rfl ?_
  refine RD.aload (pc := 27) dX5_post_27 rfl ?_
  refine RD.aload_n (pc := 29) dX5_post_29 rfl ?_
  refine RD.getR (pc := 30) dX5_post_30 flX5_11 ok0 rfl rfl ?_
  refine RD.iload_n (pc := 33) dX5_post_33 rfl ?_
  refine RD.aald (pc := 34) f dX5_post_34 ok1 rfl rfl rfl hf8 (by decide) ?_
  refine RD.iload_n (pc := 35) dX5_post_35 rfl ?_
  refine RD.iconst (pc := 36) (v := (-1)) dX5_post_36 (by decide) ?_
  refine RD.cV3 (pc := 37) dX5_post_37 mlX5_85 rfl (ok6 ht8) rfl (c_put K _ ht8 hf8 D v (-1) hp hf hz hz8) (leb rfl) ?_
  refine RD.if_ne (pc := 40) 45 dX5_post_40 (by decide) (fun c40 => ?_) (fun c40 => absurd c40 (by decide))
  refine RD.aload (pc := 45) dX5_post_45 rfl ?_
  refine RD.gI (pc := 47) (v := nI z + 1) putF_z dX5_post_47 flX5_91 (ok6 ht8) rfl rfl ?_
  refine RD.ireturn (pc := 50) dX5_post_50 rfl rfl ?_
  exact ⟨rfl, rfl⟩

set_option maxRecDepth 20000 in
set_option maxHeartbeats 1000000 in
theorem c_postFull (K : EK) (d : Nat) (D : DT) {f t : Nat} (hf8 : f < 8) (ht8 : t < 8) (v : Int32) {p z : Nat} (hp : p < 8) (hf : D (6, t, 0) 1 = nI p) (hz : D (6, t, 0) 2 = nI z) (hz8 : z = 8) : CF K mX5_post (d + 2) [rR (0, 0, 0), rI (nI f), rI (nI t), rI v] D (some (rI (-1))) D := by
  refine CF.of [some (rR (0, 0, 0)), some (rI (nI f)), some (rI (nI t)), some (rI v), none] (by decide) (leb rfl) rfl ?_
  refine RD.iload_n (pc := 0) dX5_post_0 rfl ?_
  refine RD.cS1 (pc := 1) dX5_post_1 mlX5_29 (c_isSlot K _ D (nI f)) (leb rfl) ?_
  refine RD.if_eq (pc := 4) 14 dX5_post_4 (by decide) (fun c4 => absurd c4 (bIin (by decide) hf8)) (fun c4 => ?_)
  refine RD.iload_n (pc := 7) dX5_post_7 rfl ?_
  refine RD.cS1 (pc := 8) dX5_post_8 mlX5_29 (c_isSlot K _ D (nI t)) (leb rfl) ?_
  refine RD.if_ne (pc := 11) 16 dX5_post_11 (by decide) (fun c11 => ?_) (fun c11 => absurd c11 (bIin (by decide) ht8))
  refine RD.aload_n (pc := 16) dX5_post_16 rfl ?_
  refine RD.getR (pc := 17) dX5_post_17 flX5_11 ok0 rfl rfl ?_
  refine RD.iload_n (pc := 20) dX5_post_20 rfl ?_
  refine RD.aald (pc := 21) t dX5_post_21 ok1 rfl rfl rfl ht8 (by decide) ?_
  refine RD.getR (pc := 22) dX5_post_22 flX5_81 (ok2 ht8) rfl rfl ?_
  refine RD.astore (pc := 25) (ls' := [some (rR (0, 0, 0)), some (rI (nI f)), some (rI (nI t)), some (rI v), some (rR (6, t, 0))]) dX5_post_25 (by decide) rfl ?_
  refine RD.aload (pc := 27) dX5_post_27 rfl ?_
  refine RD.aload_n (pc := 29) dX5_post_29 rfl ?_
  refine RD.getR (pc := 30) dX5_post_30 flX5_11 ok0 rfl rfl ?_
  refine RD.iload_n (pc := 33) dX5_post_33 rfl ?_
  refine RD.aald (pc := 34) f dX5_post_34 ok1 rfl rfl rfl hf8 (by decide) ?_
  refine RD.iload_n (pc := 35) dX5_post_35 rfl ?_
  refine RD.iconst (pc := 36) (v := (-1)) dX5_post_36 (by decide) ?_
  refine RD.cV3 (pc := 37) dX5_post_37 mlX5_85 rfl (ok6 ht8) rfl (c_putFull K _ ht8 hf8 D v (-1) hp hf hz hz8) (leb rfl) ?_
  refine RD.if_ne (pc := 40) 45 dX5_post_40 (by decide) (fun c40 => absurd rfl c40) (fun c40 => ?_)
  refine RD.iconst (pc := 43) (v := (-1)) dX5_post_43 (by decide) ?_
  refine RD.ireturn (pc := 44) dX5_post_44 rfl rfl ?_
  exact ⟨rfl, rfl⟩

set_option maxRecDepth 20000 in
set_option maxHeartbeats 1000000 in
theorem c_postN (K : EK) (d : Nat) (D : DT) (a b v : Int32) (h : ¬ (inR a 8 = true ∧ inR b 8 = true)) : CF K mX5_post (d + 2) [rR (0, 0, 0), rI a, rI b, rI v] D (some (rI (-1))) D := by
  refine CF.of [some (rR (0, 0, 0)), some (rI a), some (rI b), some (rI v), none] (by decide) (leb rfl) rfl ?_
  refine RD.iload_n (pc := 0) dX5_post_0 rfl ?_
  refine RD.cS1 (pc := 1) dX5_post_1 mlX5_29 (c_isSlot K _ D a) (leb rfl) ?_
  refine RD.if_eq (pc := 4) 14 dX5_post_4 (by decide) (fun c4 => ?_) (fun c4 => ?_)
  · refine RD.iconst (pc := 14) (v := (-1)) dX5_post_14 (by decide) ?_
    refine RD.ireturn (pc := 15) dX5_post_15 rfl rfl ?_
    exact ⟨rfl, rfl⟩
  · refine RD.iload_n (pc := 7) dX5_post_7 rfl ?_
    refine RD.cS1 (pc := 8) dX5_post_8 mlX5_29 (c_isSlot K _ D b) (leb rfl) ?_
    refine RD.if_ne (pc := 11) 16 dX5_post_11 (by decide) (fun c11 => ?_) (fun c11 => ?_)
    · exact absurd ⟨bI_1 c4, bI_1 c11⟩ h
    · refine RD.iconst (pc := 14) (v := (-1)) dX5_post_14 (by decide) ?_
      refine RD.ireturn (pc := 15) dX5_post_15 rfl rfl ?_
      exact ⟨rfl, rfl⟩

set_option maxRecDepth 20000 in
set_option maxHeartbeats 1000000 in
theorem c_cell (K : EK) (d : Nat) (D : DT) {s n : Nat} (hs : s < 8) (hn : n < 128) : CF K mX5_cell (d + 1) [rR (0, 0, 0), rI (nI s), rI (nI n)] D (some (rI (D (3, s, 0) n))) D := by
  refine CF.of [some (rR (0, 0, 0)), some (rI (nI s)), some (rI (nI n))] (by decide) (leb rfl) rfl ?_
  refine RD.iload_n (pc := 0) dX5_cell_0 rfl ?_
  refine RD.cS1 (pc := 1) dX5_cell_1 mlX5_29 (c_isSlot K _ D (nI s)) (leb rfl) ?_
  refine RD.if_eq (pc := 4) 28 dX5_cell_4 (by decide) (fun c4 => absurd c4 (bIin (by decide) hs)) (fun c4 => ?_)
  refine RD.iload_n (pc := 7) dX5_cell_7 rfl ?_
  refine RD.cS1 (pc := 8) dX5_cell_8 mlX5_102 (c_isPlace K _ D (nI n)) (leb rfl) ?_
  refine RD.if_eq (pc := 11) 28 dX5_cell_11 (by decide) (fun c11 => absurd c11 (bIin (by decide) hn)) (fun c11 => ?_)
  refine RD.aload_n (pc := 14) dX5_cell_14 rfl ?_
  refine RD.getR (pc := 15) dX5_cell_15 flX5_11 ok0 rfl rfl ?_
  refine RD.iload_n (pc := 18) dX5_cell_18 rfl ?_
  refine RD.aald (pc := 19) s dX5_cell_19 ok1 rfl rfl rfl hs (by decide) ?_
  refine RD.getR (pc := 20) dX5_cell_20 flX5_33 (ok2 hs) rfl rfl ?_
  refine RD.iload_n (pc := 23) dX5_cell_23 rfl ?_
  refine RD.iL (pc := 24) (n := 128) n (v := D (3, s, 0) n) rfl dX5_cell_24 (ok3 hs) rfl rfl hn (by decide) ?_
  refine RD.goto (pc := 25) 29 dX5_cell_25 (by decide) ?_
  refine RD.ireturn (pc := 29) dX5_cell_29 rfl rfl ?_
  exact ⟨rfl, rfl⟩

set_option maxRecDepth 20000 in
set_option maxHeartbeats 1000000 in
theorem c_cellN (K : EK) (d : Nat) (D : DT) (a b : Int32) (h : ¬ (inR a 8 = true ∧ inR b 128 = true)) : CF K mX5_cell (d + 1) [rR (0, 0, 0), rI a, rI b] D (some (rI 0)) D := by
  refine CF.of [some (rR (0, 0, 0)), some (rI a), some (rI b)] (by decide) (leb rfl) rfl ?_
  refine RD.iload_n (pc := 0) dX5_cell_0 rfl ?_
  refine RD.cS1 (pc := 1) dX5_cell_1 mlX5_29 (c_isSlot K _ D a) (leb rfl) ?_
  refine RD.if_eq (pc := 4) 28 dX5_cell_4 (by decide) (fun c4 => ?_) (fun c4 => ?_)
  · refine RD.iconst (pc := 28) (v := 0) dX5_cell_28 (by decide) ?_
    refine RD.ireturn (pc := 29) dX5_cell_29 rfl rfl ?_
    exact ⟨rfl, rfl⟩
  · refine RD.iload_n (pc := 7) dX5_cell_7 rfl ?_
    refine RD.cS1 (pc := 8) dX5_cell_8 mlX5_102 (c_isPlace K _ D b) (leb rfl) ?_
    refine RD.if_eq (pc := 11) 28 dX5_cell_11 (by decide) (fun c11 => ?_) (fun c11 => ?_)
    · refine RD.iconst (pc := 28) (v := 0) dX5_cell_28 (by decide) ?_
      refine RD.ireturn (pc := 29) dX5_cell_29 rfl rfl ?_
      exact ⟨rfl, rfl⟩
    · exact absurd ⟨bI_1 c4, bI_1 c11⟩ h

set_option maxRecDepth 20000 in
set_option maxHeartbeats 1000000 in
theorem c_label (K : EK) (d : Nat) (D : DT) {s : Nat} (hs : s < 8) (x : Int32) : CF K mX5_label (d + 2) [rR (0, 0, 0), rI (nI s), rI x] D (some (rI (tagAtF D s 0 x))) D := by
  refine CF.of [some (rR (0, 0, 0)), some (rI (nI s)), some (rI x)] (by decide) (leb rfl) rfl ?_
  refine RD.iload_n (pc := 0) dX5_label_0 rfl ?_
  refine RD.cS1 (pc := 1) dX5_label_1 mlX5_29 (c_isSlot K _ D (nI s)) (leb rfl) ?_
  refine RD.if_eq (pc := 4) 23 dX5_label_4 (by decide) (fun c4 => absurd c4 (bIin (by decide) hs)) (fun c4 => ?_)
  refine RD.aload_n (pc := 7) dX5_label_7 rfl ?_
  refine RD.getR (pc := 8) dX5_label_8 flX5_11 ok0 rfl rfl ?_
  refine RD.iload_n (pc := 11) dX5_label_11 rfl ?_
  refine RD.aald (pc := 12) s dX5_label_12 ok1 rfl rfl rfl hs (by decide) ?_
  refine RD.getR (pc := 13) dX5_label_13 flX5_46 (ok2 hs) rfl rfl ?_
  refine RD.iload_n (pc := 16) dX5_label_16 rfl ?_
  refine RD.cV1 (pc := 17) dX5_label_17 mlX5_127 rfl (ok4 hs (by decide)) rfl (c_tagAt K _ (ok4 hs (by decide)) D x) (leb rfl) ?_
  refine RD.goto (pc := 20) 24 dX5_label_20 (by decide) ?_
  refine RD.ireturn (pc := 24) dX5_label_24 rfl rfl ?_
  exact ⟨rfl, rfl⟩

set_option maxRecDepth 20000 in
set_option maxHeartbeats 1000000 in
theorem c_labelN (K : EK) (d : Nat) (D : DT) (a x : Int32) (h : inR a 8 = false) : CF K mX5_label (d + 2) [rR (0, 0, 0), rI a, rI x] D (some (rI (-1))) D := by
  refine CF.of [some (rR (0, 0, 0)), some (rI a), some (rI x)] (by decide) (leb rfl) rfl ?_
  refine RD.iload_n (pc := 0) dX5_label_0 rfl ?_
  refine RD.cS1 (pc := 1) dX5_label_1 mlX5_29 (c_isSlot K _ D a) (leb rfl) ?_
  refine RD.if_eq (pc := 4) 23 dX5_label_4 (by decide) (fun c4 => ?_) (fun c4 => absurd (bIout h) c4)
  refine RD.iconst (pc := 23) (v := (-1)) dX5_label_23 (by decide) ?_
  refine RD.ireturn (pc := 24) dX5_label_24 rfl rfl ?_
  exact ⟨rfl, rfl⟩

set_option maxRecDepth 20000 in
set_option maxHeartbeats 1000000 in
theorem c_isOut1 (K : EK) (d : Nat) (D : DT) {s e w : Nat} (hs : s < 8) (hw : D (2, s, 0) 14 = nI w) (he : e < w) (hw64 : w ≤ 64) : CF K mX5_isOutput (d + 1) [rR (0, 0, 0), rI (nI s), rI (nI e)] D (some (rI 1)) D := by
  refine CF.of [some (rR (0, 0, 0)), some (rI (nI s)), some (rI (nI e))] (by decide) (leb rfl) rfl ?_
  refine RD.iload_n (pc := 0) dX5_isOutput_0 rfl ?_
  refine RD.cS1 (pc := 1) dX5_isOutput_1 mlX5_29 (c_isSlot K _ D (nI s)) (leb rfl) ?_
  refine RD.if_eq (pc := 4) 28 dX5_isOutput_4 (by decide) (fun c4 => absurd c4 (bIin (by decide) hs)) (fun c4 => ?_)
  refine RD.iload_n (pc := 7) dX5_isOutput_7 rfl ?_
  refine RD.if_lt (pc := 8) 28 dX5_isOutput_8 (by decide) (fun c8 => absurd c8 (nI_pos (by omega))) (fun c8 => ?_)
  refine RD.iload_n (pc := 11) dX5_isOutput_11 rfl ?_
  refine RD.aload_n (pc := 12) dX5_isOutput_12 rfl ?_
  refine RD.getR (pc := 13) dX5_isOutput_13 flX5_11 ok0 rfl rfl ?_
  refine RD.iload_n (pc := 16) dX5_isOutput_16 rfl ?_
  refine RD.aald (pc := 17) s dX5_isOutput_17 ok1 rfl rfl rfl hs (by decide) ?_
  refine RD.gI (pc := 18) (v := nI w) hw dX5_isOutput_18 flX5_124 (ok2 hs) rfl rfl ?_
  refine RD.icmp_ge (pc := 21) 28 dX5_isOutput_21 (by decide) (fun c21 => absurd c21 (nI_ge he (by omega))) (fun c21 => ?_)
  refine RD.iconst (pc := 24) (v := 1) dX5_isOutput_24 (by decide) ?_
  refine RD.goto (pc := 25) 29 dX5_isOutput_25 (by decide) ?_
  refine RD.ireturn (pc := 29) dX5_isOutput_29 rfl rfl ?_
  exact ⟨rfl, rfl⟩

set_option maxRecDepth 20000 in
set_option maxHeartbeats 1000000 in
theorem c_isOut0 (K : EK) (d : Nat) (D : DT) (a x : Int32) (h : ∀ s, s < 8 → a = nI s → x < 0 ∨ D (2, s, 0) 14 ≤ x) : CF K mX5_isOutput (d + 1) [rR (0, 0, 0), rI a, rI x] D (some (rI 0)) D := by
  refine CF.of [some (rR (0, 0, 0)), some (rI a), some (rI x)] (by decide) (leb rfl) rfl ?_
  refine RD.iload_n (pc := 0) dX5_isOutput_0 rfl ?_
  refine RD.cS1 (pc := 1) dX5_isOutput_1 mlX5_29 (c_isSlot K _ D a) (leb rfl) ?_
  refine RD.if_eq (pc := 4) 28 dX5_isOutput_4 (by decide) (fun c4 => ?_) (fun c4 => ?_)
  · refine RD.iconst (pc := 28) (v := 0) dX5_isOutput_28 (by decide) ?_
    refine RD.ireturn (pc := 29) dX5_isOutput_29 rfl rfl ?_
    exact ⟨rfl, rfl⟩
  · obtain ⟨s, hs, rfl⟩ := inR_t (N := 8) (by decide) (bI_1 c4)
    refine RD.iload_n (pc := 7) dX5_isOutput_7 rfl ?_
    refine RD.if_lt (pc := 8) 28 dX5_isOutput_8 (by decide) (fun c8 => ?_) (fun c8 => ?_)
    · refine RD.iconst (pc := 28) (v := 0) dX5_isOutput_28 (by decide) ?_
      refine RD.ireturn (pc := 29) dX5_isOutput_29 rfl rfl ?_
      exact ⟨rfl, rfl⟩
    · refine RD.iload_n (pc := 11) dX5_isOutput_11 rfl ?_
      refine RD.aload_n (pc := 12) dX5_isOutput_12 rfl ?_
      refine RD.getR (pc := 13) dX5_isOutput_13 flX5_11 ok0 rfl rfl ?_
      refine RD.iload_n (pc := 16) dX5_isOutput_16 rfl ?_
      refine RD.aald (pc := 17) s dX5_isOutput_17 ok1 rfl rfl rfl hs (by decide) ?_
      refine RD.gI (pc := 18) (v := D (2, s, 0) 14) rfl dX5_isOutput_18 flX5_124 (ok2 hs) rfl rfl ?_
      refine RD.icmp_ge (pc := 21) 28 dX5_isOutput_21 (by decide) (fun c21 => ?_) (fun c21 => ?_)
      · refine RD.iconst (pc := 28) (v := 0) dX5_isOutput_28 (by decide) ?_
        refine RD.ireturn (pc := 29) dX5_isOutput_29 rfl rfl ?_
        exact ⟨rfl, rfl⟩
      · exfalso
        rcases h s hs rfl with h | h
        · exact c8 h
        · exact c21 h

set_option maxRecDepth 20000 in
set_option maxHeartbeats 1000000 in
theorem c_output (K : EK) (d : Nat) (D : DT) {s e w : Nat} (hs : s < 8) (hw : D (2, s, 0) 14 = nI w) (he : e < w) (hw64 : w ≤ 64) : CF K mX5_output (d + 2) [rR (0, 0, 0), rI (nI s), rI (nI e)] D (some (rI (D (10, s, 0) e))) D := by
  refine CF.of [some (rR (0, 0, 0)), some (rI (nI s)), some (rI (nI e))] (by decide) (leb rfl) rfl ?_
  refine RD.aload_n (pc := 0) dX5_output_0 rfl ?_
  refine RD.iload_n (pc := 1) dX5_output_1 rfl ?_
  refine RD.iload_n (pc := 2) dX5_output_2 rfl ?_
  refine RD.cV2 (pc := 3) dX5_output_3 mlX5_131 rfl ok0 rfl (c_isOut1 K _ D hs hw he hw64) (leb rfl) ?_
  refine RD.if_eq (pc := 6) 23 dX5_output_6 (by decide) (fun c6 => absurd c6 (by decide)) (fun c6 => ?_)
  refine RD.aload_n (pc := 9) dX5_output_9 rfl ?_
  refine RD.getR (pc := 10) dX5_output_10 flX5_11 ok0 rfl rfl ?_
  refine RD.iload_n (pc := 13) dX5_output_13 rfl ?_
  refine RD.aald (pc := 14) s dX5_output_14 ok1 rfl rfl rfl hs (by decide) ?_
  refine RD.getR (pc := 15) dX5_output_15 flX5_134 (ok2 hs) rfl rfl ?_
  refine RD.iload_n (pc := 18) dX5_output_18 rfl ?_
  refine RD.iL (pc := 19) (n := 64) e (v := D (10, s, 0) e) rfl dX5_output_19 (ok10 hs) rfl rfl (by omega) (by decide) ?_
  refine RD.goto (pc := 20) 24 dX5_output_20 (by decide) ?_
  refine RD.ireturn (pc := 24) dX5_output_24 rfl rfl ?_
  exact ⟨rfl, rfl⟩

set_option maxRecDepth 20000 in
set_option maxHeartbeats 1000000 in
theorem c_outputN (K : EK) (d : Nat) (D : DT) (a x : Int32) (h : ∀ s, s < 8 → a = nI s → x < 0 ∨ D (2, s, 0) 14 ≤ x) : CF K mX5_output (d + 2) [rR (0, 0, 0), rI a, rI x] D (some (rI 0)) D := by
  refine CF.of [some (rR (0, 0, 0)), some (rI a), some (rI x)] (by decide) (leb rfl) rfl ?_
  refine RD.aload_n (pc := 0) dX5_output_0 rfl ?_
  refine RD.iload_n (pc := 1) dX5_output_1 rfl ?_
  refine RD.iload_n (pc := 2) dX5_output_2 rfl ?_
  refine RD.cV2 (pc := 3) dX5_output_3 mlX5_131 rfl ok0 rfl (c_isOut0 K _ D a x h) (leb rfl) ?_
  refine RD.if_eq (pc := 6) 23 dX5_output_6 (by decide) (fun c6 => ?_) (fun c6 => absurd rfl c6)
  refine RD.iconst (pc := 23) (v := 0) dX5_output_23 (by decide) ?_
  refine RD.ireturn (pc := 24) dX5_output_24 rfl rfl ?_
  exact ⟨rfl, rfl⟩

set_option maxRecDepth 20000 in
set_option maxHeartbeats 1000000 in
theorem c_outputTags (K : EK) (d : Nat) (D : DT) {s e w : Nat} (hs : s < 8) (hw : D (2, s, 0) 14 = nI w) (he : e < w) (hw64 : w ≤ 64) : CF K mX5_outputTags (d + 2) [rR (0, 0, 0), rI (nI s), rI (nI e)] D (some (rI (D (11, s, 0) e))) D := by
  refine CF.of [some (rR (0, 0, 0)), some (rI (nI s)), some (rI (nI e))] (by decide) (leb rfl) rfl ?_
  refine RD.aload_n (pc := 0) dX5_outputTags_0 rfl ?_
  refine RD.iload_n (pc := 1) dX5_outputTags_1 rfl ?_
  refine RD.iload_n (pc := 2) dX5_outputTags_2 rfl ?_
  refine RD.cV2 (pc := 3) dX5_outputTags_3 mlX5_131 rfl ok0 rfl (c_isOut1 K _ D hs hw he hw64) (leb rfl) ?_
  refine RD.if_eq (pc := 6) 23 dX5_outputTags_6 (by decide) (fun c6 => absurd c6 (by decide)) (fun c6 => ?_)
  refine RD.aload_n (pc := 9) dX5_outputTags_9 rfl ?_
  refine RD.getR (pc := 10) dX5_outputTags_10 flX5_11 ok0 rfl rfl ?_
  refine RD.iload_n (pc := 13) dX5_outputTags_13 rfl ?_
  refine RD.aald (pc := 14) s dX5_outputTags_14 ok1 rfl rfl rfl hs (by decide) ?_
  refine RD.getR (pc := 15) dX5_outputTags_15 flX5_137 (ok2 hs) rfl rfl ?_
  refine RD.iload_n (pc := 18) dX5_outputTags_18 rfl ?_
  refine RD.iL (pc := 19) (n := 64) e (v := D (11, s, 0) e) rfl dX5_outputTags_19 (ok11 hs) rfl rfl (by omega) (by decide) ?_
  refine RD.goto (pc := 20) 24 dX5_outputTags_20 (by decide) ?_
  refine RD.ireturn (pc := 24) dX5_outputTags_24 rfl rfl ?_
  exact ⟨rfl, rfl⟩

set_option maxRecDepth 20000 in
set_option maxHeartbeats 1000000 in
theorem c_outputTagsN (K : EK) (d : Nat) (D : DT) (a x : Int32) (h : ∀ s, s < 8 → a = nI s → x < 0 ∨ D (2, s, 0) 14 ≤ x) : CF K mX5_outputTags (d + 2) [rR (0, 0, 0), rI a, rI x] D (some (rI (-1))) D := by
  refine CF.of [some (rR (0, 0, 0)), some (rI a), some (rI x)] (by decide) (leb rfl) rfl ?_
  refine RD.aload_n (pc := 0) dX5_outputTags_0 rfl ?_
  refine RD.iload_n (pc := 1) dX5_outputTags_1 rfl ?_
  refine RD.iload_n (pc := 2) dX5_outputTags_2 rfl ?_
  refine RD.cV2 (pc := 3) dX5_outputTags_3 mlX5_131 rfl ok0 rfl (c_isOut0 K _ D a x h) (leb rfl) ?_
  refine RD.if_eq (pc := 6) 23 dX5_outputTags_6 (by decide) (fun c6 => ?_) (fun c6 => absurd rfl c6)
  refine RD.iconst (pc := 23) (v := (-1)) dX5_outputTags_23 (by decide) ?_
  refine RD.ireturn (pc := 24) dX5_outputTags_24 rfl rfl ?_
  exact ⟨rfl, rfl⟩

set_option maxRecDepth 20000 in
set_option maxHeartbeats 1000000 in
theorem c_mayFlow (K : EK) (d : Nat) (D : DT) {f t : Nat} (hf8 : f < 8) (ht8 : t < 8) : CF K mX5_mayFlow (d + 2) [rR (0, 0, 0), rI (nI f), rI (nI t)] D (some (rI (bI (subB (D (5, f, 0)) (D (5, t, 0)))))) D := by
  refine CF.of [some (rR (0, 0, 0)), some (rI (nI f)), some (rI (nI t))] (by decide) (leb rfl) rfl ?_
  refine RD.iload_n (pc := 0) dX5_mayFlow_0 rfl ?_
  refine RD.cS1 (pc := 1) dX5_mayFlow_1 mlX5_29 (c_isSlot K _ D (nI f)) (leb rfl) ?_
  refine RD.if_eq (pc := 4) 42 dX5_mayFlow_4 (by decide) (fun c4 => absurd c4 (bIin (by decide) hf8)) (fun c4 => ?_)
  refine RD.iload_n (pc := 7) dX5_mayFlow_7 rfl ?_
  refine RD.cS1 (pc := 8) dX5_mayFlow_8 mlX5_29 (c_isSlot K _ D (nI t)) (leb rfl) ?_
  refine RD.if_eq (pc := 11) 42 dX5_mayFlow_11 (by decide) (fun c11 => absurd c11 (bIin (by decide) ht8)) (fun c11 => ?_)
  refine RD.aload_n (pc := 14) dX5_mayFlow_14 rfl ?_
  refine RD.getR (pc := 15) dX5_mayFlow_15 flX5_11 ok0 rfl rfl ?_
  refine RD.iload_n (pc := 18) dX5_mayFlow_18 rfl ?_
  refine RD.aald (pc := 19) f dX5_mayFlow_19 ok1 rfl rfl rfl hf8 (by decide) ?_
  refine RD.getR (pc := 20) dX5_mayFlow_20 flX5_46 (ok2 hf8) rfl rfl ?_
  refine RD.aload_n (pc := 23) dX5_mayFlow_23 rfl ?_
  refine RD.getR (pc := 24) dX5_mayFlow_24 flX5_11 ok0 rfl rfl ?_
  refine RD.iload_n (pc := 27) dX5_mayFlow_27 rfl ?_
  refine RD.aald (pc := 28) t dX5_mayFlow_28 ok1 rfl rfl rfl ht8 (by decide) ?_
  refine RD.getR (pc := 29) dX5_mayFlow_29 flX5_46 (ok2 ht8) rfl rfl ?_
  refine RD.cV1 (pc := 32) dX5_mayFlow_32 mlX5_140 rfl (ok4 hf8 (by decide)) rfl (c_isIn K _ (ok4 hf8 (by decide)) (ok4 ht8 (by decide)) D) (leb rfl) ?_
  refine RD.if_eq (pc := 35) 42 dX5_mayFlow_35 (by decide) (fun c35 => ?_) (fun c35 => ?_)
  · refine RD.iconst (pc := 42) (v := 0) dX5_mayFlow_42 (by decide) ?_
    refine RD.ireturn (pc := 43) dX5_mayFlow_43 rfl rfl ?_
    exact ⟨by rw [bI_0 c35]; rfl, rfl⟩
  · refine RD.iconst (pc := 38) (v := 1) dX5_mayFlow_38 (by decide) ?_
    refine RD.goto (pc := 39) 43 dX5_mayFlow_39 (by decide) ?_
    refine RD.ireturn (pc := 43) dX5_mayFlow_43 rfl rfl ?_
    exact ⟨by rw [bI_1 c35]; rfl, rfl⟩

set_option maxRecDepth 20000 in
set_option maxHeartbeats 1000000 in
theorem c_mayFlowN (K : EK) (d : Nat) (D : DT) (a b : Int32) (h : ¬ (inR a 8 = true ∧ inR b 8 = true)) : CF K mX5_mayFlow (d + 2) [rR (0, 0, 0), rI a, rI b] D (some (rI 0)) D := by
  refine CF.of [some (rR (0, 0, 0)), some (rI a), some (rI b)] (by decide) (leb rfl) rfl ?_
  refine RD.iload_n (pc := 0) dX5_mayFlow_0 rfl ?_
  refine RD.cS1 (pc := 1) dX5_mayFlow_1 mlX5_29 (c_isSlot K _ D a) (leb rfl) ?_
  refine RD.if_eq (pc := 4) 42 dX5_mayFlow_4 (by decide) (fun c4 => ?_) (fun c4 => ?_)
  · refine RD.iconst (pc := 42) (v := 0) dX5_mayFlow_42 (by decide) ?_
    refine RD.ireturn (pc := 43) dX5_mayFlow_43 rfl rfl ?_
    exact ⟨rfl, rfl⟩
  · refine RD.iload_n (pc := 7) dX5_mayFlow_7 rfl ?_
    refine RD.cS1 (pc := 8) dX5_mayFlow_8 mlX5_29 (c_isSlot K _ D b) (leb rfl) ?_
    refine RD.if_eq (pc := 11) 42 dX5_mayFlow_11 (by decide) (fun c11 => ?_) (fun c11 => ?_)
    · refine RD.iconst (pc := 42) (v := 0) dX5_mayFlow_42 (by decide) ?_
      refine RD.ireturn (pc := 43) dX5_mayFlow_43 rfl rfl ?_
      exact ⟨rfl, rfl⟩
    · exact absurd ⟨bI_1 c4, bI_1 c11⟩ h

set_option maxRecDepth 20000 in
set_option maxHeartbeats 1000000 in
theorem c_slot0 (K : EK) (d : Nat) (D : DT) {s : Nat} (hs : s < 8) : CF K mX5_slot (d + 1) [rR (0, 0, 0), rI (nI s), rI 0] D (some (rI (D (2, s, 0) 4))) D := by
  refine CF.of [some (rR (0, 0, 0)), some (rI (nI s)), some (rI 0), none] (by decide) (leb rfl) rfl ?_
  refine RD.iload_n (pc := 0) dX5_slot_0 rfl ?_
  refine RD.cS1 (pc := 1) dX5_slot_1 mlX5_29 (c_isSlot K _ D (nI s)) (leb rfl) ?_
  refine RD.if_ne (pc := 4) 9 dX5_slot_4 (by decide) (fun c4 => ?_) (fun c4 => absurd c4 (bIin (by decide) hs))
  refine RD.aload_n (pc := 9) dX5_slot_9 rfl ?_
  refine RD.getR (pc := 10) dX5_slot_10 flX5_11 ok0 rfl rfl ?_
  refine RD.iload_n (pc := 13) dX5_slot_13 rfl ?_
  refine RD.aald (pc := 14) s dX5_slot_14 ok1 rfl rfl rfl hs (by decide) ?_
  refine RD.astore_n (pc := 15) (ls' := [some (rR (0, 0, 0)), some (rI (nI s)), some (rI 0), some (rR (2, s, 0))]) dX5_slot_15 (by decide) rfl ?_
  refine RD.iload_n (pc := 16) dX5_slot_16 rfl ?_
  refine RD.tableIn (pc := 17) 76 dX5_slot_17 (by decide) (by decide) rfl (by decide) ?_
  refine RD.aload_n (pc := 76) dX5_slot_76 rfl ?_
  refine RD.gI (pc := 77) (v := D (2, s, 0) 4) rfl dX5_slot_77 flX5_37 (ok2 hs) rfl rfl ?_
  refine RD.ireturn (pc := 80) dX5_slot_80 rfl rfl ?_
  exact ⟨rfl, rfl⟩

set_option maxRecDepth 20000 in
set_option maxHeartbeats 1000000 in
theorem c_slot1 (K : EK) (d : Nat) (D : DT) {s : Nat} (hs : s < 8) : CF K mX5_slot (d + 1) [rR (0, 0, 0), rI (nI s), rI 1] D (some (rI (D (2, s, 0) 5))) D := by
  refine CF.of [some (rR (0, 0, 0)), some (rI (nI s)), some (rI 1), none] (by decide) (leb rfl) rfl ?_
  refine RD.iload_n (pc := 0) dX5_slot_0 rfl ?_
  refine RD.cS1 (pc := 1) dX5_slot_1 mlX5_29 (c_isSlot K _ D (nI s)) (leb rfl) ?_
  refine RD.if_ne (pc := 4) 9 dX5_slot_4 (by decide) (fun c4 => ?_) (fun c4 => absurd c4 (bIin (by decide) hs))
  refine RD.aload_n (pc := 9) dX5_slot_9 rfl ?_
  refine RD.getR (pc := 10) dX5_slot_10 flX5_11 ok0 rfl rfl ?_
  refine RD.iload_n (pc := 13) dX5_slot_13 rfl ?_
  refine RD.aald (pc := 14) s dX5_slot_14 ok1 rfl rfl rfl hs (by decide) ?_
  refine RD.astore_n (pc := 15) (ls' := [some (rR (0, 0, 0)), some (rI (nI s)), some (rI 1), some (rR (2, s, 0))]) dX5_slot_15 (by decide) rfl ?_
  refine RD.iload_n (pc := 16) dX5_slot_16 rfl ?_
  refine RD.tableIn (pc := 17) 81 dX5_slot_17 (by decide) (by decide) rfl (by decide) ?_
  refine RD.aload_n (pc := 81) dX5_slot_81 rfl ?_
  refine RD.gI (pc := 82) (v := D (2, s, 0) 5) rfl dX5_slot_82 flX5_105 (ok2 hs) rfl rfl ?_
  refine RD.ireturn (pc := 85) dX5_slot_85 rfl rfl ?_
  exact ⟨rfl, rfl⟩

set_option maxRecDepth 20000 in
set_option maxHeartbeats 1000000 in
theorem c_slot2 (K : EK) (d : Nat) (D : DT) {s : Nat} (hs : s < 8) : CF K mX5_slot (d + 1) [rR (0, 0, 0), rI (nI s), rI 2] D (some (rI (D (2, s, 0) 2))) D := by
  refine CF.of [some (rR (0, 0, 0)), some (rI (nI s)), some (rI 2), none] (by decide) (leb rfl) rfl ?_
  refine RD.iload_n (pc := 0) dX5_slot_0 rfl ?_
  refine RD.cS1 (pc := 1) dX5_slot_1 mlX5_29 (c_isSlot K _ D (nI s)) (leb rfl) ?_
  refine RD.if_ne (pc := 4) 9 dX5_slot_4 (by decide) (fun c4 => ?_) (fun c4 => absurd c4 (bIin (by decide) hs))
  refine RD.aload_n (pc := 9) dX5_slot_9 rfl ?_
  refine RD.getR (pc := 10) dX5_slot_10 flX5_11 ok0 rfl rfl ?_
  refine RD.iload_n (pc := 13) dX5_slot_13 rfl ?_
  refine RD.aald (pc := 14) s dX5_slot_14 ok1 rfl rfl rfl hs (by decide) ?_
  refine RD.astore_n (pc := 15) (ls' := [some (rR (0, 0, 0)), some (rI (nI s)), some (rI 2), some (rR (2, s, 0))]) dX5_slot_15 (by decide) rfl ?_
  refine RD.iload_n (pc := 16) dX5_slot_16 rfl ?_
  refine RD.tableIn (pc := 17) 86 dX5_slot_17 (by decide) (by decide) rfl (by decide) ?_
  refine RD.aload_n (pc := 86) dX5_slot_86 rfl ?_
  refine RD.gI (pc := 87) (v := D (2, s, 0) 2) rfl dX5_slot_87 flX5_108 (ok2 hs) rfl rfl ?_
  refine RD.ireturn (pc := 90) dX5_slot_90 rfl rfl ?_
  exact ⟨rfl, rfl⟩

set_option maxRecDepth 20000 in
set_option maxHeartbeats 1000000 in
theorem c_slot3 (K : EK) (d : Nat) (D : DT) {s : Nat} (hs : s < 8) : CF K mX5_slot (d + 1) [rR (0, 0, 0), rI (nI s), rI 3] D (some (rI (D (2, s, 0) 3))) D := by
  refine CF.of [some (rR (0, 0, 0)), some (rI (nI s)), some (rI 3), none] (by decide) (leb rfl) rfl ?_
  refine RD.iload_n (pc := 0) dX5_slot_0 rfl ?_
  refine RD.cS1 (pc := 1) dX5_slot_1 mlX5_29 (c_isSlot K _ D (nI s)) (leb rfl) ?_
  refine RD.if_ne (pc := 4) 9 dX5_slot_4 (by decide) (fun c4 => ?_) (fun c4 => absurd c4 (bIin (by decide) hs))
  refine RD.aload_n (pc := 9) dX5_slot_9 rfl ?_
  refine RD.getR (pc := 10) dX5_slot_10 flX5_11 ok0 rfl rfl ?_
  refine RD.iload_n (pc := 13) dX5_slot_13 rfl ?_
  refine RD.aald (pc := 14) s dX5_slot_14 ok1 rfl rfl rfl hs (by decide) ?_
  refine RD.astore_n (pc := 15) (ls' := [some (rR (0, 0, 0)), some (rI (nI s)), some (rI 3), some (rR (2, s, 0))]) dX5_slot_15 (by decide) rfl ?_
  refine RD.iload_n (pc := 16) dX5_slot_16 rfl ?_
  refine RD.tableIn (pc := 17) 91 dX5_slot_17 (by decide) (by decide) rfl (by decide) ?_
  refine RD.aload_n (pc := 91) dX5_slot_91 rfl ?_
  refine RD.gI (pc := 92) (v := D (2, s, 0) 3) rfl dX5_slot_92 flX5_111 (ok2 hs) rfl rfl ?_
  refine RD.ireturn (pc := 95) dX5_slot_95 rfl rfl ?_
  exact ⟨rfl, rfl⟩

set_option maxRecDepth 20000 in
set_option maxHeartbeats 1000000 in
theorem c_slot4 (K : EK) (d : Nat) (D : DT) {s : Nat} (hs : s < 8) : CF K mX5_slot (d + 1) [rR (0, 0, 0), rI (nI s), rI 4] D (some (rI (D (4, s, 0) 1))) D := by
  refine CF.of [some (rR (0, 0, 0)), some (rI (nI s)), some (rI 4), none] (by decide) (leb rfl) rfl ?_
  refine RD.iload_n (pc := 0) dX5_slot_0 rfl ?_
  refine RD.cS1 (pc := 1) dX5_slot_1 mlX5_29 (c_isSlot K _ D (nI s)) (leb rfl) ?_
  refine RD.if_ne (pc := 4) 9 dX5_slot_4 (by decide) (fun c4 => ?_) (fun c4 => absurd c4 (bIin (by decide) hs))
  refine RD.aload_n (pc := 9) dX5_slot_9 rfl ?_
  refine RD.getR (pc := 10) dX5_slot_10 flX5_11 ok0 rfl rfl ?_
  refine RD.iload_n (pc := 13) dX5_slot_13 rfl ?_
  refine RD.aald (pc := 14) s dX5_slot_14 ok1 rfl rfl rfl hs (by decide) ?_
  refine RD.astore_n (pc := 15) (ls' := [some (rR (0, 0, 0)), some (rI (nI s)), some (rI 4), some (rR (2, s, 0))]) dX5_slot_15 (by decide) rfl ?_
  refine RD.iload_n (pc := 16) dX5_slot_16 rfl ?_
  refine RD.tableIn (pc := 17) 96 dX5_slot_17 (by decide) (by decide) rfl (by decide) ?_
  refine RD.aload_n (pc := 96) dX5_slot_96 rfl ?_
  refine RD.getR (pc := 97) dX5_slot_97 flX5_46 (ok2 hs) rfl rfl ?_
  refine RD.gI (pc := 100) (v := D (4, s, 0) 1) rfl dX5_slot_100 flX5_71 (ok4 hs (by decide)) rfl rfl ?_
  refine RD.ireturn (pc := 103) dX5_slot_103 rfl rfl ?_
  exact ⟨rfl, rfl⟩

set_option maxRecDepth 20000 in
set_option maxHeartbeats 1000000 in
theorem c_slot5 (K : EK) (d : Nat) (D : DT) {s : Nat} (hs : s < 8) : CF K mX5_slot (d + 1) [rR (0, 0, 0), rI (nI s), rI 5] D (some (rI (D (2, s, 0) 6))) D := by
  refine CF.of [some (rR (0, 0, 0)), some (rI (nI s)), some (rI 5), none] (by decide) (leb rfl) rfl ?_
  refine RD.iload_n (pc := 0) dX5_slot_0 rfl ?_
  refine RD.cS1 (pc := 1) dX5_slot_1 mlX5_29 (c_isSlot K _ D (nI s)) (leb rfl) ?_
  refine RD.if_ne (pc := 4) 9 dX5_slot_4 (by decide) (fun c4 => ?_) (fun c4 => absurd c4 (bIin (by decide) hs))
  refine RD.aload_n (pc := 9) dX5_slot_9 rfl ?_
  refine RD.getR (pc := 10) dX5_slot_10 flX5_11 ok0 rfl rfl ?_
  refine RD.iload_n (pc := 13) dX5_slot_13 rfl ?_
  refine RD.aald (pc := 14) s dX5_slot_14 ok1 rfl rfl rfl hs (by decide) ?_
  refine RD.astore_n (pc := 15) (ls' := [some (rR (0, 0, 0)), some (rI (nI s)), some (rI 5), some (rR (2, s, 0))]) dX5_slot_15 (by decide) rfl ?_
  refine RD.iload_n (pc := 16) dX5_slot_16 rfl ?_
  refine RD.tableIn (pc := 17) 104 dX5_slot_17 (by decide) (by decide) rfl (by decide) ?_
  refine RD.aload_n (pc := 104) dX5_slot_104 rfl ?_
  refine RD.gI (pc := 105) (v := D (2, s, 0) 6) rfl dX5_slot_105 flX5_40 (ok2 hs) rfl rfl ?_
  refine RD.ireturn (pc := 108) dX5_slot_108 rfl rfl ?_
  exact ⟨rfl, rfl⟩

set_option maxRecDepth 20000 in
set_option maxHeartbeats 1000000 in
theorem c_slot6 (K : EK) (d : Nat) (D : DT) {s : Nat} (hs : s < 8) : CF K mX5_slot (d + 1) [rR (0, 0, 0), rI (nI s), rI 6] D (some (rI (D (4, s, 1) 1))) D := by
  refine CF.of [some (rR (0, 0, 0)), some (rI (nI s)), some (rI 6), none] (by decide) (leb rfl) rfl ?_
  refine RD.iload_n (pc := 0) dX5_slot_0 rfl ?_
  refine RD.cS1 (pc := 1) dX5_slot_1 mlX5_29 (c_isSlot K _ D (nI s)) (leb rfl) ?_
  refine RD.if_ne (pc := 4) 9 dX5_slot_4 (by decide) (fun c4 => ?_) (fun c4 => absurd c4 (bIin (by decide) hs))
  refine RD.aload_n (pc := 9) dX5_slot_9 rfl ?_
  refine RD.getR (pc := 10) dX5_slot_10 flX5_11 ok0 rfl rfl ?_
  refine RD.iload_n (pc := 13) dX5_slot_13 rfl ?_
  refine RD.aald (pc := 14) s dX5_slot_14 ok1 rfl rfl rfl hs (by decide) ?_
  refine RD.astore_n (pc := 15) (ls' := [some (rR (0, 0, 0)), some (rI (nI s)), some (rI 6), some (rR (2, s, 0))]) dX5_slot_15 (by decide) rfl ?_
  refine RD.iload_n (pc := 16) dX5_slot_16 rfl ?_
  refine RD.tableIn (pc := 17) 109 dX5_slot_17 (by decide) (by decide) rfl (by decide) ?_
  refine RD.aload_n (pc := 109) dX5_slot_109 rfl ?_
  refine RD.getR (pc := 110) dX5_slot_110 flX5_114 (ok2 hs) rfl rfl ?_
  refine RD.gI (pc := 113) (v := D (4, s, 1) 1) rfl dX5_slot_113 flX5_71 (ok4 hs (by decide)) rfl rfl ?_
  refine RD.ireturn (pc := 116) dX5_slot_116 rfl rfl ?_
  exact ⟨rfl, rfl⟩

set_option maxRecDepth 20000 in
set_option maxHeartbeats 1000000 in
theorem c_slot7 (K : EK) (d : Nat) (D : DT) {s : Nat} (hs : s < 8) : CF K mX5_slot (d + 1) [rR (0, 0, 0), rI (nI s), rI 7] D (some (rI (D (4, s, 2) 1))) D := by
  refine CF.of [some (rR (0, 0, 0)), some (rI (nI s)), some (rI 7), none] (by decide) (leb rfl) rfl ?_
  refine RD.iload_n (pc := 0) dX5_slot_0 rfl ?_
  refine RD.cS1 (pc := 1) dX5_slot_1 mlX5_29 (c_isSlot K _ D (nI s)) (leb rfl) ?_
  refine RD.if_ne (pc := 4) 9 dX5_slot_4 (by decide) (fun c4 => ?_) (fun c4 => absurd c4 (bIin (by decide) hs))
  refine RD.aload_n (pc := 9) dX5_slot_9 rfl ?_
  refine RD.getR (pc := 10) dX5_slot_10 flX5_11 ok0 rfl rfl ?_
  refine RD.iload_n (pc := 13) dX5_slot_13 rfl ?_
  refine RD.aald (pc := 14) s dX5_slot_14 ok1 rfl rfl rfl hs (by decide) ?_
  refine RD.astore_n (pc := 15) (ls' := [some (rR (0, 0, 0)), some (rI (nI s)), some (rI 7), some (rR (2, s, 0))]) dX5_slot_15 (by decide) rfl ?_
  refine RD.iload_n (pc := 16) dX5_slot_16 rfl ?_
  refine RD.tableIn (pc := 17) 117 dX5_slot_17 (by decide) (by decide) rfl (by decide) ?_
  refine RD.aload_n (pc := 117) dX5_slot_117 rfl ?_
  refine RD.getR (pc := 118) dX5_slot_118 flX5_117 (ok2 hs) rfl rfl ?_
  refine RD.gI (pc := 121) (v := D (4, s, 2) 1) rfl dX5_slot_121 flX5_71 (ok4 hs (by decide)) rfl rfl ?_
  refine RD.ireturn (pc := 124) dX5_slot_124 rfl rfl ?_
  exact ⟨rfl, rfl⟩

set_option maxRecDepth 20000 in
set_option maxHeartbeats 1000000 in
theorem c_slot8 (K : EK) (d : Nat) (D : DT) {s : Nat} (hs : s < 8) : CF K mX5_slot (d + 1) [rR (0, 0, 0), rI (nI s), rI 8] D (some (rI (D (6, s, 0) 2))) D := by
  refine CF.of [some (rR (0, 0, 0)), some (rI (nI s)), some (rI 8), none] (by decide) (leb rfl) rfl ?_
  refine RD.iload_n (pc := 0) dX5_slot_0 rfl ?_
  refine RD.cS1 (pc := 1) dX5_slot_1 mlX5_29 (c_isSlot K _ D (nI s)) (leb rfl) ?_
  refine RD.if_ne (pc := 4) 9 dX5_slot_4 (by decide) (fun c4 => ?_) (fun c4 => absurd c4 (bIin (by decide) hs))
  refine RD.aload_n (pc := 9) dX5_slot_9 rfl ?_
  refine RD.getR (pc := 10) dX5_slot_10 flX5_11 ok0 rfl rfl ?_
  refine RD.iload_n (pc := 13) dX5_slot_13 rfl ?_
  refine RD.aald (pc := 14) s dX5_slot_14 ok1 rfl rfl rfl hs (by decide) ?_
  refine RD.astore_n (pc := 15) (ls' := [some (rR (0, 0, 0)), some (rI (nI s)), some (rI 8), some (rR (2, s, 0))]) dX5_slot_15 (by decide) rfl ?_
  refine RD.iload_n (pc := 16) dX5_slot_16 rfl ?_
  refine RD.tableIn (pc := 17) 125 dX5_slot_17 (by decide) (by decide) rfl (by decide) ?_
  refine RD.aload_n (pc := 125) dX5_slot_125 rfl ?_
  refine RD.getR (pc := 126) dX5_slot_126 flX5_81 (ok2 hs) rfl rfl ?_
  refine RD.gI (pc := 129) (v := D (6, s, 0) 2) rfl dX5_slot_129 flX5_91 (ok6 hs) rfl rfl ?_
  refine RD.ireturn (pc := 132) dX5_slot_132 rfl rfl ?_
  exact ⟨rfl, rfl⟩

set_option maxRecDepth 20000 in
set_option maxHeartbeats 1000000 in
theorem c_slot9 (K : EK) (d : Nat) (D : DT) {s : Nat} (hs : s < 8) : CF K mX5_slot (d + 1) [rR (0, 0, 0), rI (nI s), rI 9] D (some (rI (cfL D s 8 0 0))) D := by
  refine CF.of [some (rR (0, 0, 0)), some (rI (nI s)), some (rI 9), none] (by decide) (leb rfl) rfl ?_
  refine RD.iload_n (pc := 0) dX5_slot_0 rfl ?_
  refine RD.cS1 (pc := 1) dX5_slot_1 mlX5_29 (c_isSlot K _ D (nI s)) (leb rfl) ?_
  refine RD.if_ne (pc := 4) 9 dX5_slot_4 (by decide) (fun c4 => ?_) (fun c4 => absurd c4 (bIin (by decide) hs))
  refine RD.aload_n (pc := 9) dX5_slot_9 rfl ?_
  refine RD.getR (pc := 10) dX5_slot_10 flX5_11 ok0 rfl rfl ?_
  refine RD.iload_n (pc := 13) dX5_slot_13 rfl ?_
  refine RD.aald (pc := 14) s dX5_slot_14 ok1 rfl rfl rfl hs (by decide) ?_
  refine RD.astore_n (pc := 15) (ls' := [some (rR (0, 0, 0)), some (rI (nI s)), some (rI 9), some (rR (2, s, 0))]) dX5_slot_15 (by decide) rfl ?_
  refine RD.iload_n (pc := 16) dX5_slot_16 rfl ?_
  refine RD.tableIn (pc := 17) 133 dX5_slot_17 (by decide) (by decide) rfl (by decide) ?_
  refine RD.aload_n (pc := 133) dX5_slot_133 rfl ?_
  refine RD.cV0 (pc := 134) dX5_slot_134 mlX5_120 rfl (ok2 hs) rfl (c_countFiles K _ hs D) (leb rfl) ?_
  refine RD.ireturn (pc := 137) dX5_slot_137 rfl rfl ?_
  exact ⟨rfl, rfl⟩

set_option maxRecDepth 20000 in
set_option maxHeartbeats 1000000 in
theorem c_slot10 (K : EK) (d : Nat) (D : DT) {s : Nat} (hs : s < 8) : CF K mX5_slot (d + 1) [rR (0, 0, 0), rI (nI s), rI 10] D (some (rI (D (2, s, 0) 14))) D := by
  refine CF.of [some (rR (0, 0, 0)), some (rI (nI s)), some (rI 10), none] (by decide) (leb rfl) rfl ?_
  refine RD.iload_n (pc := 0) dX5_slot_0 rfl ?_
  refine RD.cS1 (pc := 1) dX5_slot_1 mlX5_29 (c_isSlot K _ D (nI s)) (leb rfl) ?_
  refine RD.if_ne (pc := 4) 9 dX5_slot_4 (by decide) (fun c4 => ?_) (fun c4 => absurd c4 (bIin (by decide) hs))
  refine RD.aload_n (pc := 9) dX5_slot_9 rfl ?_
  refine RD.getR (pc := 10) dX5_slot_10 flX5_11 ok0 rfl rfl ?_
  refine RD.iload_n (pc := 13) dX5_slot_13 rfl ?_
  refine RD.aald (pc := 14) s dX5_slot_14 ok1 rfl rfl rfl hs (by decide) ?_
  refine RD.astore_n (pc := 15) (ls' := [some (rR (0, 0, 0)), some (rI (nI s)), some (rI 10), some (rR (2, s, 0))]) dX5_slot_15 (by decide) rfl ?_
  refine RD.iload_n (pc := 16) dX5_slot_16 rfl ?_
  refine RD.tableIn (pc := 17) 138 dX5_slot_17 (by decide) (by decide) rfl (by decide) ?_
  refine RD.aload_n (pc := 138) dX5_slot_138 rfl ?_
  refine RD.gI (pc := 139) (v := D (2, s, 0) 14) rfl dX5_slot_139 flX5_124 (ok2 hs) rfl rfl ?_
  refine RD.ireturn (pc := 142) dX5_slot_142 rfl rfl ?_
  exact ⟨rfl, rfl⟩

set_option maxRecDepth 20000 in
set_option maxHeartbeats 1000000 in
theorem c_slotX (K : EK) (d : Nat) (D : DT) {s : Nat} (hs : s < 8) (x : Int32) (h : x.toInt < 0 ∨ 10 < x.toInt) : CF K mX5_slot (d + 1) [rR (0, 0, 0), rI (nI s), rI x] D (some (rI (-1))) D := by
  refine CF.of [some (rR (0, 0, 0)), some (rI (nI s)), some (rI x), none] (by decide) (leb rfl) rfl ?_
  refine RD.iload_n (pc := 0) dX5_slot_0 rfl ?_
  refine RD.cS1 (pc := 1) dX5_slot_1 mlX5_29 (c_isSlot K _ D (nI s)) (leb rfl) ?_
  refine RD.if_ne (pc := 4) 9 dX5_slot_4 (by decide) (fun c4 => ?_) (fun c4 => absurd c4 (bIin (by decide) hs))
  refine RD.aload_n (pc := 9) dX5_slot_9 rfl ?_
  refine RD.getR (pc := 10) dX5_slot_10 flX5_11 ok0 rfl rfl ?_
  refine RD.iload_n (pc := 13) dX5_slot_13 rfl ?_
  refine RD.aald (pc := 14) s dX5_slot_14 ok1 rfl rfl rfl hs (by decide) ?_
  refine RD.astore_n (pc := 15) (ls' := [some (rR (0, 0, 0)), some (rI (nI s)), some (rI x), some (rR (2, s, 0))]) dX5_slot_15 (by decide) rfl ?_
  refine RD.iload_n (pc := 16) dX5_slot_16 rfl ?_
  refine RD.tableOut (pc := 17) 143 dX5_slot_17 h (by decide) ?_
  refine RD.iconst (pc := 143) (v := (-1)) dX5_slot_143 (by decide) ?_
  refine RD.ireturn (pc := 144) dX5_slot_144 rfl rfl ?_
  exact ⟨rfl, rfl⟩

set_option maxRecDepth 20000 in
set_option maxHeartbeats 1000000 in
theorem c_slotN (K : EK) (d : Nat) (D : DT) (a x : Int32) (h : inR a 8 = false) : CF K mX5_slot (d + 1) [rR (0, 0, 0), rI a, rI x] D (some (rI (-1))) D := by
  refine CF.of [some (rR (0, 0, 0)), some (rI a), some (rI x), none] (by decide) (leb rfl) rfl ?_
  refine RD.iload_n (pc := 0) dX5_slot_0 rfl ?_
  refine RD.cS1 (pc := 1) dX5_slot_1 mlX5_29 (c_isSlot K _ D a) (leb rfl) ?_
  refine RD.if_ne (pc := 4) 9 dX5_slot_4 (by decide) (fun c4 => absurd (bIout h) c4) (fun c4 => ?_)
  refine RD.iconst (pc := 7) (v := (-1)) dX5_slot_7 (by decide) ?_
  refine RD.ireturn (pc := 8) dX5_slot_8 rfl rfl ?_
  exact ⟨rfl, rfl⟩
