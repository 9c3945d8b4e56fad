theorem ad_ne {a b : AD} (h : a.1 ≠ b.1) : a ≠ b := fun e => h (by rw [e])
theorem cpyF_o {D : DT} {i j i2 j2 : Nat} {a : AD} (h4 : a.1 ≠ 4) (h5 : a.1 ≠ 5) : cpyF D i j i2 j2 a = D a := by
  rw [cpyF, up_n (ad_ne h4), cpyW, if_neg (ad_ne h5)]
theorem clrF_o {D : DT} {i j : Nat} {a : AD} (h4 : a.1 ≠ 4) (h5 : a.1 ≠ 5) : clrF D i j a = D a := by
  rw [clrF, up_n (ad_ne h4), clrW, if_neg (ad_ne h5)]
theorem addD_o {D : DT} {i j n : Nat} {a : AD} (h4 : a.1 ≠ 4) (h5 : a.1 ≠ 5) : addD D i j n a = D a := by
  rw [addD, up_n (ad_ne h4), up_n (ad_ne h5)]
theorem remD_o {D : DT} {i j n : Nat} {a : AD} (h4 : a.1 ≠ 4) (h5 : a.1 ≠ 5) : remD D i j n a = D a := by
  rw [remD, up_n (ad_ne h4), up_n (ad_ne h5)]
theorem addF_o {D : DT} {i j : Nat} {t : Int32} {a : AD} (h4 : a.1 ≠ 4) (h5 : a.1 ≠ 5) : addF D i j t a = D a := by
  unfold addF
  split
  · exact addD_o h4 h5
  · rfl
theorem remF_o {D : DT} {i j : Nat} {t : Int32} {a : AD} (h4 : a.1 ≠ 4) (h5 : a.1 ≠ 5) : remF D i j t a = D a := by
  unfold remF
  split
  · exact remD_o h4 h5
  · rfl
theorem chgD_o {D : DT} {i j : Nat} {t b m : Int32} {a : AD} (h4 : a.1 ≠ 4) (h5 : a.1 ≠ 5) : chgD D i j t b m a = D a := by
  unfold chgD
  split
  · exact remF_o h4 h5
  · split
    · rfl
    · split
      · exact addF_o h4 h5
      · rfl
theorem bIin {n N : Nat} (hN : N < 2 ^ 31) (h : n < N) : ¬ bI (inR (nI n) N) = 0 := by rw [inR_nI hN h]; decide
theorem bIout {t : Int32} {N : Nat} (h : inR t N = false) : bI (inR t N) = 0 := by rw [h]; rfl
theorem mod8 {p z : Nat} (h : p + z < 2 ^ 31) : nI p + nI z - (nI p + nI z) / 8 * 8 = nI ((p + z) % 8) := by
  rw [nI_add]; exact pk_rem (d := 8) h (by decide) (by decide)
theorem mod81 {p : Nat} (h : p < 8) : nI p + 1 - (nI p + 1) / 8 * 8 = nI ((p + 1) % 8) := by
  rw [nI_1]; exact pk_rem (d := 8) (by omega) (by decide) (by decide)
/-- a message at the queue's end -/
def putF (D : DT) (i s : Nat) (v kd : Int32) (p z : Nat) : DT := up (up (up (up (cpyF D i (3 + (p + z) % 8) s 0) (8, i, (p + z) % 8) 1 (nI s)) (8, i, (p + z) % 8) 2 v) (8, i, (p + z) % 8) 3 kd) (6, i, 0) 2 (nI z + 1)

set_option maxRecDepth 20000 in
set_option maxHeartbeats 1000000 in
theorem c_put (K : EK) (d : Nat) {i s : Nat} (hi : i < 8) (hs : s < 8) (D : DT) (v kd : Int32) {p z : Nat} (hp : p < 8) (hf : D (6, i, 0) 1 = nI p) (hz : D (6, i, 0) 2 = nI z) (hz8 : z < 8) : CF K mX1_put (d + 1) [rR (6, i, 0), rR (2, s, 0), rI v, rI kd] D (some (rI 1)) (putF D i s v kd p z) := by
  refine CF.of [some (rR (6, i, 0)), some (rR (2, s, 0)), some (rI v), some (rI kd), none] (by decide) (leb rfl) rfl ?_
  refine RD.aload_n (pc := 0) dX1_put_0 rfl ?_
  refine RD.gI (pc := 1) (v := nI z) hz dX1_put_1 flX1_21 (ok6 hi) rfl rfl ?_
  refine RD.bipush (pc := 4) (v := 8) dX1_put_4 (by decide) ?_
  refine RD.icmp_lt (pc := 6) 11 dX1_put_6 (by decide) (fun c6 => ?_) (fun c6 => absurd (nI_lt (b := 8) hz8 (by decide)) c6)
  refine RD.aload_n (pc := 11) dX1_put_11 rfl ?_
  refine RD.getR (pc := 12) dX1_put_12 flX1_11 (ok6 hi) rfl rfl ?_
  refine RD.aload_n (pc := 15) dX1_put_15 rfl ?_
  refine RD.gI (pc := 16) (v := nI p) hf dX1_put_16 flX1_17 (ok6 hi) rfl rfl ?_
  refine RD.aload_n (pc := 19) dX1_put_19 rfl ?_
  refine RD.gI (pc := 20) (v := nI z) hz dX1_put_20 flX1_21 (ok6 hi) rfl rfl ?_
  refine RD.iadd (pc := 23) dX1_put_23 ?_
  refine RD.bipush (pc := 24) (v := 8) dX1_put_24 (by decide) ?_
  refine RD.irem (pc := 26) dX1_put_26 (by decide) ?_
  refine RD.aald (pc := 27) ((p + z) % 8) dX1_put_27 (ok7 hi) rfl rfl (mod8 (by omega)) (by omega) (by decide) ?_
  refine RD.astore (pc := 28) (ls' := [some (rR (6, i, 0)), some (rR (2, s, 0)), some (rI v), some (rI kd), some (rR (8, i, (p + z) % 8))]) dX1_put_28 (by decide) rfl ?_
  refine RD.aload (pc := 30) dX1_put_30 rfl ?_
  refine RD.getR (pc := 32) dX1_put_32 flX1_25 (ok8 hi (by omega)) rfl rfl ?_
  refine RD.aload_n (pc := 35) dX1_put_35 rfl ?_
  refine RD.getR (pc := 36) dX1_put_36 flX1_29 (ok2 hs) rfl rfl ?_
  refine RD.cV1v (pc := 39) dX1_put_39 mlX1_32 rfl (ok4 hi (by omega)) rfl (c_copy K _ (ok4 hi (by omega)) (ok4 hs (by decide)) D) (leb rfl) ?_
  refine RD.aload (pc := 42) dX1_put_42 rfl ?_
  refine RD.aload_n (pc := 44) dX1_put_44 rfl ?_
  refine RD.getR (pc := 45) dX1_put_45 flX1_38 (ok2 hs) rfl rfl ?_
  refine RD.putf (pc := 48) dX1_put_48 fpX1_41 (ok8 hi (by omega)) rfl rfl rfl rfl ?_
  refine RD.aload (pc := 51) dX1_put_51 rfl ?_
  refine RD.iload_n (pc := 53) dX1_put_53 rfl ?_
  refine RD.putf (pc := 54) dX1_put_54 fpX1_44 (ok8 hi (by omega)) rfl rfl rfl rfl ?_
  refine RD.aload (pc := 57) dX1_put_57 rfl ?_
  refine RD.iload_n (pc := 59) dX1_put_59 rfl ?_
  refine RD.putf (pc := 60) dX1_put_60 fpX1_47 (ok8 hi (by omega)) rfl rfl rfl rfl ?_
  refine RD.aload_n (pc := 63) dX1_put_63 rfl ?_
  refine RD.dup (pc := 64) dX1_put_64 ?_
  refine RD.gI (pc := 65) (v := nI z) (up_N (by simp) (up_N (by simp) (up_N (by simp) ((congrFun (cpyF_o (by simp) (by simp)) _).trans hz)))) dX1_put_65 flX1_21 (ok6 hi) rfl rfl ?_
  refine RD.iconst (pc := 68) (v := 1) dX1_put_68 (by decide) ?_
  refine RD.iadd (pc := 69) dX1_put_69 ?_
  refine RD.putf (pc := 70) dX1_put_70 fpX1_21 (ok6 hi) rfl rfl rfl rfl ?_
  refine RD.iconst (pc := 73) (v := 1) dX1_put_73 (by decide) ?_
  refine RD.ireturn (pc := 74) dX1_put_74 rfl rfl ?_
  exact ⟨rfl, rfl⟩

set_option maxRecDepth 20000 in
set_option maxHeartbeats 1000000 in
theorem c_putFull (K : EK) (d : Nat) {i s : Nat} (hi : i < 8) (hs : s < 8) (D : DT) (v kd : Int32) {p z : Nat} (hp : p < 8) (hf : D (6, i, 0) 1 = nI p) (hz : D (6, i, 0) 2 = nI z) (hz8 : z = 8) : CF K mX1_put (d + 1) [rR (6, i, 0), rR (2, s, 0), rI v, rI kd] D (some (rI 0)) D := by
  refine CF.of [some (rR (6, i, 0)), some (rR (2, s, 0)), some (rI v), some (rI kd), none] (by decide) (leb rfl) rfl ?_
  refine RD.aload_n (pc := 0) dX1_put_0 rfl ?_
  refine RD.gI (pc := 1) (v := nI z) hz dX1_put_1 flX1_21 (ok6 hi) rfl rfl ?_
  refine RD.bipush (pc := 4) (v := 8) dX1_put_4 (by decide) ?_
  refine RD.icmp_lt (pc := 6) 11 dX1_put_6 (by decide) (fun c6 => absurd c6 (by rw [hz8]; decide)) (fun c6 => ?_)
  refine RD.iconst (pc := 9) (v := 0) dX1_put_9 (by decide) ?_
  refine RD.ireturn (pc := 10) dX1_put_10 rfl rfl ?_
  exact ⟨rfl, rfl⟩


/-- the queue's first place and size -/
def qst (D : DT) (i p z : Nat) : DT := up (up D (6, i, 0) 1 (nI p)) (6, i, 0) 2 (nI z)
theorem qst_1 {D : DT} {i p z : Nat} : qst D i p z (6, i, 0) 1 = nI p := by simp [qst, up_at]
theorem qst_2 {D : DT} {i p z : Nat} : qst D i p z (6, i, 0) 2 = nI z := by simp [qst, up_at]
theorem qst_o {D : DT} {i p z : Nat} {a : AD} (h : a.1 ≠ 6) : qst D i p z a = D a := by rw [qst, up_n (ad_ne h), up_n (ad_ne h)]
theorem qst_s {D : DT} {i p z p2 z2 : Nat} : up (up (qst D i p z) (6, i, 0) 1 (nI p2)) (6, i, 0) 2 (nI z2) = qst D i p2 z2 := by
  funext a k
  simp only [qst, up_at]
  by_cases h : a = (6, i, 0)
  · subst h
    by_cases h2 : k = 2
    · simp [h2]
    · by_cases h1 : k = 1
      · simp [h1]
      · simp [h1, h2]
  · simp [h]
theorem qst_id {D : DT} {i p z : Nat} (hf : D (6, i, 0) 1 = nI p) (hz : D (6, i, 0) 2 = nI z) : qst D i p z = D := by
  funext a k
  simp only [qst, up_at]
  by_cases h : a = (6, i, 0)
  · subst h
    by_cases h2 : k = 2
    · simp [h2, hz]
    · by_cases h1 : k = 1
      · simp [h1, hf]
      · simp [h1, h2]
  · simp [h]
/-- which message is taken, and what first and size are then -/
def tk (c : Nat → Bool) : Nat → Nat → Option Nat × Nat × Nat
  | p, 0 => (none, p, 0)
  | p, z + 1 => if c p = true then (some p, (p + 1) % 8, z) else tk c ((p + 1) % 8) z
theorem tk_lt (c : Nat → Bool) : ∀ (z p : Nat), p < 8 → (tk c p z).2.1 < 8 ∧ (tk c p z).2.2 ≤ z ∧ ∀ q, (tk c p z).1 = some q → q < 8
  | 0, p, h => ⟨h, Nat.le_refl _, fun q hq => by cases hq⟩
  | z + 1, p, h => by
    unfold tk
    split
    · exact ⟨Nat.mod_lt _ (by decide), Nat.le_succ z, fun q hq => by cases hq; exact h⟩
    · obtain ⟨h1, h2, h3⟩ := tk_lt c z ((p + 1) % 8) (Nat.mod_lt _ (by decide))
      exact ⟨h1, Nat.le_succ_of_le h2, h3⟩
def orf (i : Nat) : Option Nat → AV
  | none => rN
  | some q => rR (8, i, q)
abbrev tkc (D : DT) (i i2 j2 : Nat) : Nat → Bool := fun q => subB (D (5, i, 3 + q)) (D (5, i2, j2))

set_option maxRecDepth 20000 in
set_option maxHeartbeats 2000000 in
theorem l_take (K : EK) (d : Nat) {i i2 j2 : Nat} (hi : i < 8) (hok2 : okA (4, i2, j2)) (D : DT) : ∀ z p, p < 8 → z ≤ 8 → RD K mX1_take (d + 2) 5 [some (rR (6, i, 0)), some (rR (4, i2, j2)), some (rI (nI z)), none] [] (qst D i p z) (fun r0 D0 => r0 = some (orf i (tk (tkc D i i2 j2) p z).1) ∧ D0 = qst D i (tk (tkc D i i2 j2) p z).2.1 (tk (tkc D i i2 j2) p z).2.2) := by
  intro z
  induction z with
  | zero =>
    intro p hp hz
    refine RD.iload_n (pc := 5) dX1_take_5 rfl ?_
    refine RD.if_le (pc := 6) 61 dX1_take_6 (by decide) (fun _ => ?_) (fun c6 => absurd (by decide) c6)
    refine RD.null (pc := 61) dX1_take_61 ?_
    refine RD.areturn (pc := 62) dX1_take_62 rfl ?_
    exact ⟨rfl, rfl⟩
  | succ z ih =>
    intro p hp hz8
    refine RD.iload_n (pc := 5) dX1_take_5 rfl ?_
    refine RD.if_le (pc := 6) 61 dX1_take_6 (by decide) (fun c6 => absurd c6 (nI_nle (by omega) (by omega))) (fun c6 => ?_)
    refine RD.aload_n (pc := 9) dX1_take_9 rfl ?_
    refine RD.getR (pc := 10) dX1_take_10 flX1_11 (ok6 hi) rfl rfl ?_
    refine RD.aload_n (pc := 13) dX1_take_13 rfl ?_
    refine RD.gI (pc := 14) (v := nI p) qst_1 dX1_take_14 flX1_17 (ok6 hi) rfl rfl ?_
    refine RD.aald (pc := 17) p dX1_take_17 (ok7 hi) rfl rfl rfl hp (by decide) ?_
    refine RD.astore_n (pc := 18) (ls' := [some (rR (6, i, 0)), some (rR (4, i2, j2)), some (rI (nI (z + 1))), some (rR (8, i, p))]) dX1_take_18 (by decide) rfl ?_
    refine RD.aload_n (pc := 19) dX1_take_19 rfl ?_
    refine RD.aload_n (pc := 20) dX1_take_20 rfl ?_
    refine RD.gI (pc := 21) (v := nI p) qst_1 dX1_take_21 flX1_17 (ok6 hi) rfl rfl ?_
    refine RD.iconst (pc := 24) (v := 1) dX1_take_24 (by decide) ?_
    refine RD.iadd (pc := 25) dX1_take_25 ?_
    refine RD.bipush (pc := 26) (v := 8) dX1_take_26 (by decide) ?_
    refine RD.irem (pc := 28) dX1_take_28 (by decide) ?_
    refine RD.putf (pc := 29) dX1_take_29 fpX1_17 (ok6 hi) rfl rfl rfl rfl ?_
    refine RD.aload_n (pc := 32) dX1_take_32 rfl ?_
    refine RD.dup (pc := 33) dX1_take_33 ?_
    refine RD.gI (pc := 34) (v := nI (z + 1)) (up_K (by decide) qst_2) dX1_take_34 flX1_21 (ok6 hi) rfl rfl ?_
    refine RD.iconst (pc := 37) (v := 1) dX1_take_37 (by decide) ?_
    refine RD.isub (pc := 38) dX1_take_38 ?_
    refine RD.putf (pc := 39) dX1_take_39 fpX1_21 (ok6 hi) rfl rfl rfl rfl ?_
    refine RD.eqD (D' := qst D i ((p + 1) % 8) z) (by rw [mod81 hp, nI_pred]; exact qst_s) ?_
    refine RD.aload_n (pc := 42) dX1_take_42 rfl ?_
    refine RD.getR (pc := 43) dX1_take_43 flX1_25 (ok8 hi hp) rfl rfl ?_
    refine RD.aload_n (pc := 46) dX1_take_46 rfl ?_
    refine RD.cV1 (pc := 47) dX1_take_47 mlX1_50 rfl (ok4 hi (by omega)) rfl (c_isIn K _ (ok4 hi (by omega)) hok2 (qst D i ((p + 1) % 8) z)) (leb rfl) ?_
    refine RD.eqI (show _ = bI (tkc D i i2 j2 p) by rw [qst_o (by simp), qst_o (by simp)]) ?_
    refine RD.if_eq (pc := 50) 55 dX1_take_50 (by decide) (fun c50 => ?_) (fun c50 => ?_)
    · rw [show tk (tkc D i i2 j2) p (z + 1) = tk (tkc D i i2 j2) ((p + 1) % 8) z by rw [tk, bI_0 c50]; rfl]
      refine RD.iinc (pc := 55) (ls' := [some (rR (6, i, 0)), some (rR (4, i2, j2)), some (rI ((nI (z + 1)) + (-1))), some (rR (8, i, p))]) dX1_take_55 rfl rfl (by decide) rfl ?_
      refine RD.goto (pc := 58) 5 dX1_take_58 (by decide) ?_
      refine RD.forget 3 (ls' := [some (rR (6, i, 0)), some (rR (4, i2, j2)), some (rI (nI (z + 1) + (-1))), none]) rfl ?_
      rw [pk_m1]
      exact ih ((p + 1) % 8) (Nat.mod_lt _ (by decide)) (by omega)
    · refine RD.aload_n (pc := 53) dX1_take_53 rfl ?_
      refine RD.areturn (pc := 54) dX1_take_54 rfl ?_
      exact ⟨by rw [tk, bI_1 c50]; rfl, by rw [tk, bI_1 c50]; rfl⟩

set_option maxRecDepth 20000 in
set_option maxHeartbeats 2000000 in
theorem c_take (K : EK) (d : Nat) {i i2 j2 : Nat} (hi : i < 8) (hok2 : okA (4, i2, j2)) (D : DT) {p z : Nat} (hp : p < 8) (hz8 : z ≤ 8) (hf : D (6, i, 0) 1 = nI p) (hz : D (6, i, 0) 2 = nI z) : CF K mX1_take (d + 2) [rR (6, i, 0), rR (4, i2, j2)] D (some (orf i (tk (tkc D i i2 j2) p z).1)) (qst D i (tk (tkc D i i2 j2) p z).2.1 (tk (tkc D i i2 j2) p z).2.2) := by
  refine CF.of [some (rR (6, i, 0)), some (rR (4, i2, j2)), none, none] (by decide) (leb rfl) rfl ?_
  refine RD.aload_n (pc := 0) dX1_take_0 rfl ?_
  refine RD.gI (pc := 1) (v := nI z) hz dX1_take_1 flX1_21 (ok6 hi) rfl rfl ?_
  refine RD.istore_n (pc := 4) (ls' := [some (rR (6, i, 0)), some (rR (4, i2, j2)), some (rI (nI z)), none]) dX1_take_4 (by decide) rfl ?_
  have h := l_take K d hi hok2 D z p hp hz8
  rw [qst_id hf hz] at h
  exact h

def stopF (D : DT) (i : Nat) (n : Int32) : DT := up (up D (2, i, 0) 4 3) (2, i, 0) 5 n

set_option maxRecDepth 20000 in
set_option maxHeartbeats 1000000 in
theorem c_stopBy (K : EK) (d : Nat) {i : Nat} (hi : i < 8) (D : DT) (n : Int32) : CF K mX2_stopBy d [rR (2, i, 0), rI n] D (none) (stopF D i n) := by
  refine CF.of [some (rR (2, i, 0)), some (rI n)] (by decide) (leb rfl) rfl ?_
  refine RD.aload_n (pc := 0) dX2_stopBy_0 rfl ?_
  refine RD.iconst (pc := 1) (v := 3) dX2_stopBy_1 (by decide) ?_
  refine RD.putf (pc := 2) dX2_stopBy_2 fpX2_22 (ok2 hi) rfl rfl rfl rfl ?_
  refine RD.aload_n (pc := 5) dX2_stopBy_5 rfl ?_
  refine RD.iload_n (pc := 6) dX2_stopBy_6 rfl ?_
  refine RD.putf (pc := 7) dX2_stopBy_7 fpX2_25 (ok2 hi) rfl rfl rfl rfl ?_
  refine RD.ret (pc := 10) ⟨rfl, dX2_stopBy_10⟩ ?_
  exact ⟨rfl, rfl⟩

set_option maxRecDepth 20000 in
set_option maxHeartbeats 1000000 in
theorem c_cap0 (K : EK) (d : Nat) {i : Nat} (hi : i < 8) (D : DT) : CF K mX2_capabilities d [rR (2, i, 0), rI 0] D (some (rR (4, i, 1))) D := by
  refine CF.of [some (rR (2, i, 0)), some (rI 0)] (by decide) (leb rfl) rfl ?_
  refine RD.iload_n (pc := 0) dX2_capabilities_0 rfl ?_
  refine RD.if_ne (pc := 1) 11 dX2_capabilities_1 (by decide) (fun c1 => absurd rfl c1) (fun c1 => ?_)
  refine RD.aload_n (pc := 4) dX2_capabilities_4 rfl ?_
  refine RD.getR (pc := 5) dX2_capabilities_5 flX2_38 (ok2 hi) rfl rfl ?_
  refine RD.goto (pc := 8) 15 dX2_capabilities_8 (by decide) ?_
  refine RD.areturn (pc := 15) dX2_capabilities_15 rfl ?_
  exact ⟨rfl, rfl⟩

set_option maxRecDepth 20000 in
set_option maxHeartbeats 1000000 in
theorem c_cap1 (K : EK) (d : Nat) {i : Nat} (hi : i < 8) (D : DT) {k : Int32} (hk : ¬ k = 0) : CF K mX2_capabilities d [rR (2, i, 0), rI k] D (some (rR (4, i, 2))) D := by
  refine CF.of [some (rR (2, i, 0)), some (rI k)] (by decide) (leb rfl) rfl ?_
  refine RD.iload_n (pc := 0) dX2_capabilities_0 rfl ?_
  refine RD.if_ne (pc := 1) 11 dX2_capabilities_1 (by decide) (fun c1 => ?_) (fun c1 => absurd c1 hk)
  refine RD.aload_n (pc := 11) dX2_capabilities_11 rfl ?_
  refine RD.getR (pc := 12) dX2_capabilities_12 flX2_41 (ok2 hi) rfl rfl ?_
  refine RD.areturn (pc := 15) dX2_capabilities_15 rfl ?_
  exact ⟨rfl, rfl⟩

set_option maxRecDepth 20000 in
set_option maxHeartbeats 1000000 in
theorem c_kindOf0 (K : EK) (d : Nat) (D : DT) : CF K mX5_kindOf d [rI 0] D (some (rI 0)) D := by
  refine CF.of [some (rI 0)] (by decide) (leb rfl) rfl ?_
  refine RD.iload_n (pc := 0) dX5_kindOf_0 rfl ?_
  refine RD.if_ne (pc := 1) 8 dX5_kindOf_1 (by decide) (fun c1 => absurd rfl c1) (fun c1 => ?_)
  refine RD.iconst (pc := 4) (v := 0) dX5_kindOf_4 (by decide) ?_
  refine RD.goto (pc := 5) 9 dX5_kindOf_5 (by decide) ?_
  refine RD.ireturn (pc := 9) dX5_kindOf_9 rfl rfl ?_
  exact ⟨rfl, rfl⟩

set_option maxRecDepth 20000 in
set_option maxHeartbeats 1000000 in
theorem c_kindOf1 (K : EK) (d : Nat) (D : DT) {k : Int32} (hk : ¬ k = 0) : CF K mX5_kindOf d [rI k] D (some (rI 1)) D := by
  refine CF.of [some (rI k)] (by decide) (leb rfl) rfl ?_
  refine RD.iload_n (pc := 0) dX5_kindOf_0 rfl ?_
  refine RD.if_ne (pc := 1) 8 dX5_kindOf_1 (by decide) (fun c1 => ?_) (fun c1 => absurd c1 hk)
  refine RD.iconst (pc := 8) (v := 1) dX5_kindOf_8 (by decide) ?_
  refine RD.ireturn (pc := 9) dX5_kindOf_9 rfl rfl ?_
  exact ⟨rfl, rfl⟩
