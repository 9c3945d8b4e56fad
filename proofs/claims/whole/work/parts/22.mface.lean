set_option maxRecDepth 20000 in
set_option maxHeartbeats 1000000 in
theorem m_poke (K : EK) (d : Nat) (D : DT) {s n : Nat} (hs : s < 8) (hn : n < 126) (u v w : Int32) : CF K mX6_poke (d + 2) [rR (14, 0, 0), rI (nI s), rI (nI n), rI u, rI v, rI w] D (some (rI 1)) (up (up (up D (15, 0, 0) (128 * s + n) u) (15, 0, 0) (128 * s + n + 1) v) (15, 0, 0) (128 * s + n + 2) w) := by
  refine CF.of [some (rR (14, 0, 0)), some (rI (nI s)), some (rI (nI n)), some (rI u), some (rI v), some (rI w)] (by decide) (leb rfl) rfl ?_
  refine RD.iload_n (pc := 0) dX6_poke_0 rfl ?_
  refine RD.cS1 (pc := 1) dX6_poke_1 mlX6_75 (c_mIsSlot K _ D (nI s)) (leb rfl) ?_
  refine RD.if_eq (pc := 4) 17 dX6_poke_4 (by decide) (fun c4 => absurd c4 (bIin (by decide) hs)) (fun c4 => ?_)
  refine RD.iload_n (pc := 7) dX6_poke_7 rfl ?_
  refine RD.iconst (pc := 8) (v := 0) dX6_poke_8 (by decide) ?_
  refine RD.bipush (pc := 9) (v := 125) dX6_poke_9 (by decide) ?_
  refine RD.cS3 (pc := 11) dX6_poke_11 mlX6_63 (c_mIsIn K _ D (nI n) 125 (by decide)) (leb rfl) ?_
  refine RD.if_ne (pc := 14) 19 dX6_poke_14 (by decide) (fun c14 => ?_) (fun c14 => absurd c14 (bIin (by decide) hn))
  refine RD.aload_n (pc := 19) dX6_poke_19 rfl ?_
  refine RD.getR (pc := 20) dX6_poke_20 flX6_9 ok14 rfl rfl ?_
  refine RD.sipush (pc := 23) (v := 128) dX6_poke_23 (by decide) ?_
  refine RD.iload_n (pc := 26) dX6_poke_26 rfl ?_
  refine RD.imul (pc := 27) dX6_poke_27 ?_
  refine RD.eqI (pk_mul 128 s) ?_
  refine RD.iload_n (pc := 28) dX6_poke_28 rfl ?_
  refine RD.iadd (pc := 29) dX6_poke_29 ?_
  refine RD.eqI (nI_add (128 * s) n) ?_
  refine RD.iload_n (pc := 30) dX6_poke_30 rfl ?_
  refine RD.iast (pc := 31) (n := 1024) ((128 * s) + n) dX6_poke_31 (ok15 (by decide)) rfl rfl (by omega) (by decide) ?_
  refine RD.aload_n (pc := 32) dX6_poke_32 rfl ?_
  refine RD.getR (pc := 33) dX6_poke_33 flX6_9 ok14 rfl rfl ?_
  refine RD.sipush (pc := 36) (v := 128) dX6_poke_36 (by decide) ?_
  refine RD.iload_n (pc := 39) dX6_poke_39 rfl ?_
  refine RD.imul (pc := 40) dX6_poke_40 ?_
  refine RD.eqI (pk_mul 128 s) ?_
  refine RD.iload_n (pc := 41) dX6_poke_41 rfl ?_
  refine RD.iadd (pc := 42) dX6_poke_42 ?_
  refine RD.eqI (nI_add (128 * s) n) ?_
  refine RD.iconst (pc := 43) (v := 1) dX6_poke_43 (by decide) ?_
  refine RD.iadd (pc := 44) dX6_poke_44 ?_
  refine RD.eqI (nI_add ((128 * s) + n) 1) ?_
  refine RD.iload (pc := 45) dX6_poke_45 rfl ?_
  refine RD.iast (pc := 47) (n := 1024) (((128 * s) + n) + 1) dX6_poke_47 (ok15 (by decide)) rfl rfl (by omega) (by decide) ?_
  refine RD.aload_n (pc := 48) dX6_poke_48 rfl ?_
  refine RD.getR (pc := 49) dX6_poke_49 flX6_9 ok14 rfl rfl ?_
  refine RD.sipush (pc := 52) (v := 128) dX6_poke_52 (by decide) ?_
  refine RD.iload_n (pc := 55) dX6_poke_55 rfl ?_
  refine RD.imul (pc := 56) dX6_poke_56 ?_
  refine RD.eqI (pk_mul 128 s) ?_
  refine RD.iload_n (pc := 57) dX6_poke_57 rfl ?_
  refine RD.iadd (pc := 58) dX6_poke_58 ?_
  refine RD.eqI (nI_add (128 * s) n) ?_
  refine RD.iconst (pc := 59) (v := 2) dX6_poke_59 (by decide) ?_
  refine RD.iadd (pc := 60) dX6_poke_60 ?_
  refine RD.eqI (nI_add ((128 * s) + n) 2) ?_
  refine RD.iload (pc := 61) dX6_poke_61 rfl ?_
  refine RD.iast (pc := 63) (n := 1024) (((128 * s) + n) + 2) dX6_poke_63 (ok15 (by decide)) rfl rfl (by omega) (by decide) ?_
  refine RD.iconst (pc := 64) (v := 1) dX6_poke_64 (by decide) ?_
  refine RD.ireturn (pc := 65) dX6_poke_65 rfl rfl ?_
  exact ⟨rfl, rfl⟩

set_option maxRecDepth 20000 in
set_option maxHeartbeats 1000000 in
theorem m_pokeN (K : EK) (d : Nat) (D : DT) (a b u v w : Int32) (h : ¬ (inR a 8 = true ∧ inR b 126 = true)) : CF K mX6_poke (d + 2) [rR (14, 0, 0), rI a, rI b, rI u, rI v, rI w] D (some (rI (-1))) D := by
  refine CF.of [some (rR (14, 0, 0)), some (rI a), some (rI b), some (rI u), some (rI v), some (rI w)] (by decide) (leb rfl) rfl ?_
  refine RD.iload_n (pc := 0) dX6_poke_0 rfl ?_
  refine RD.cS1 (pc := 1) dX6_poke_1 mlX6_75 (c_mIsSlot K _ D a) (leb rfl) ?_
  refine RD.if_eq (pc := 4) 17 dX6_poke_4 (by decide) (fun c4 => ?_) (fun c4 => ?_)
  · refine RD.iconst (pc := 17) (v := (-1)) dX6_poke_17 (by decide) ?_
    refine RD.ireturn (pc := 18) dX6_poke_18 rfl rfl ?_
    exact ⟨rfl, rfl⟩
  · refine RD.iload_n (pc := 7) dX6_poke_7 rfl ?_
    refine RD.iconst (pc := 8) (v := 0) dX6_poke_8 (by decide) ?_
    refine RD.bipush (pc := 9) (v := 125) dX6_poke_9 (by decide) ?_
    refine RD.cS3 (pc := 11) dX6_poke_11 mlX6_63 (c_mIsIn K _ D b 125 (by decide)) (leb rfl) ?_
    refine RD.if_ne (pc := 14) 19 dX6_poke_14 (by decide) (fun c14 => ?_) (fun c14 => ?_)
    · exact absurd ⟨bI_1 c4, bI_1 c14⟩ h
    · refine RD.iconst (pc := 17) (v := (-1)) dX6_poke_17 (by decide) ?_
      refine RD.ireturn (pc := 18) dX6_poke_18 rfl rfl ?_
      exact ⟨rfl, rfl⟩

set_option maxRecDepth 20000 in
set_option maxHeartbeats 1000000 in
theorem m_start (K : EK) (d : Nat) (D : DT) {s : Nat} (hs : s < 8) (h : D (15, 3, 0) s = 0) : CF K mX6_start (d + 2) [rR (14, 0, 0), rI (nI s)] D (some (rI 1)) (up D (15, 3, 0) s 1) := by
  refine CF.of [some (rR (14, 0, 0)), some (rI (nI s))] (by decide) (leb rfl) rfl ?_
  refine RD.iload_n (pc := 0) dX6_start_0 rfl ?_
  refine RD.cS1 (pc := 1) dX6_start_1 mlX6_75 (c_mIsSlot K _ D (nI s)) (leb rfl) ?_
  refine RD.if_eq (pc := 4) 16 dX6_start_4 (by decide) (fun c4 => absurd c4 (bIin (by decide) hs)) (fun c4 => ?_)
  refine RD.aload_n (pc := 7) dX6_start_7 rfl ?_
  refine RD.getR (pc := 8) dX6_start_8 flX6_19 ok14 rfl rfl ?_
  refine RD.iload_n (pc := 11) dX6_start_11 rfl ?_
  refine RD.iL (pc := 12) (n := 8) s (v := D (15, 3, 0) s) rfl dX6_start_12 (ok15 (by decide)) rfl rfl hs (by decide) ?_
  refine RD.if_eq (pc := 13) 18 dX6_start_13 (by decide) (fun c13 => ?_) (fun c13 => absurd h c13)
  refine RD.aload_n (pc := 18) dX6_start_18 rfl ?_
  refine RD.getR (pc := 19) dX6_start_19 flX6_19 ok14 rfl rfl ?_
  refine RD.iload_n (pc := 22) dX6_start_22 rfl ?_
  refine RD.iconst (pc := 23) (v := 1) dX6_start_23 (by decide) ?_
  refine RD.iast (pc := 24) (n := 8) s dX6_start_24 (ok15 (by decide)) rfl rfl hs (by decide) ?_
  refine RD.iconst (pc := 25) (v := 1) dX6_start_25 (by decide) ?_
  refine RD.ireturn (pc := 26) dX6_start_26 rfl rfl ?_
  exact ⟨rfl, rfl⟩

set_option maxRecDepth 20000 in
set_option maxHeartbeats 1000000 in
theorem m_startN (K : EK) (d : Nat) (D : DT) (a : Int32) (h : ∀ s, s < 8 → a = nI s → ¬ D (15, 3, 0) s = 0) : CF K mX6_start (d + 2) [rR (14, 0, 0), rI a] D (some (rI (-1))) D := by
  refine CF.of [some (rR (14, 0, 0)), some (rI a)] (by decide) (leb rfl) rfl ?_
  refine RD.iload_n (pc := 0) dX6_start_0 rfl ?_
  refine RD.cS1 (pc := 1) dX6_start_1 mlX6_75 (c_mIsSlot K _ D a) (leb rfl) ?_
  refine RD.if_eq (pc := 4) 16 dX6_start_4 (by decide) (fun c4 => ?_) (fun c4 => ?_)
  · refine RD.iconst (pc := 16) (v := (-1)) dX6_start_16 (by decide) ?_
    refine RD.ireturn (pc := 17) dX6_start_17 rfl rfl ?_
    exact ⟨rfl, rfl⟩
  · obtain ⟨s, hs, rfl⟩ := inR_t (N := 8) (by decide) (bI_1 c4)
    refine RD.aload_n (pc := 7) dX6_start_7 rfl ?_
    refine RD.getR (pc := 8) dX6_start_8 flX6_19 ok14 rfl rfl ?_
    refine RD.iload_n (pc := 11) dX6_start_11 rfl ?_
    refine RD.iL (pc := 12) (n := 8) s (v := D (15, 3, 0) s) rfl dX6_start_12 (ok15 (by decide)) rfl rfl hs (by decide) ?_
    refine RD.if_eq (pc := 13) 18 dX6_start_13 (by decide) (fun c13 => ?_) (fun c13 => ?_)
    · exact absurd c13 (h s hs rfl)
    · refine RD.iconst (pc := 16) (v := (-1)) dX6_start_16 (by decide) ?_
      refine RD.ireturn (pc := 17) dX6_start_17 rfl rfl ?_
      exact ⟨rfl, rfl⟩

set_option maxRecDepth 20000 in
set_option maxHeartbeats 1000000 in
theorem m_counterN (K : EK) (d : Nat) (D : DT) (a b : Int32) (h : ¬ (inR a 8 = true ∧ inR b 33 = true)) : CF K mX6_counter (d + 2) [rR (14, 0, 0), rI a, rI b] D (some (rI (-1))) D := by
  refine CF.of [some (rR (14, 0, 0)), some (rI a), some (rI b), none] (by decide) (leb rfl) rfl ?_
  refine RD.iload_n (pc := 0) dX6_counter_0 rfl ?_
  refine RD.cS1 (pc := 1) dX6_counter_1 mlX6_75 (c_mIsSlot K _ D a) (leb rfl) ?_
  refine RD.if_eq (pc := 4) 17 dX6_counter_4 (by decide) (fun c4 => ?_) (fun c4 => ?_)
  · refine RD.iconst (pc := 17) (v := (-1)) dX6_counter_17 (by decide) ?_
    refine RD.ireturn (pc := 18) dX6_counter_18 rfl rfl ?_
    exact ⟨rfl, rfl⟩
  · refine RD.iload_n (pc := 7) dX6_counter_7 rfl ?_
    refine RD.iconst (pc := 8) (v := 0) dX6_counter_8 (by decide) ?_
    refine RD.bipush (pc := 9) (v := 32) dX6_counter_9 (by decide) ?_
    refine RD.cS3 (pc := 11) dX6_counter_11 mlX6_63 (c_mIsIn K _ D b 32 (by decide)) (leb rfl) ?_
    refine RD.if_ne (pc := 14) 19 dX6_counter_14 (by decide) (fun c14 => ?_) (fun c14 => ?_)
    · exact absurd ⟨bI_1 c4, bI_1 c14⟩ h
    · refine RD.iconst (pc := 17) (v := (-1)) dX6_counter_17 (by decide) ?_
      refine RD.ireturn (pc := 18) dX6_counter_18 rfl rfl ?_
      exact ⟨rfl, rfl⟩

set_option maxRecDepth 20000 in
set_option maxHeartbeats 1000000 in
theorem m_counter2 (K : EK) (d : Nat) (D : DT) {s n : Nat} (hs : s < 8) (hn : n < 33) (h : nI n < D (15, 5, 0) s) : CF K mX6_counter (d + 2) [rR (14, 0, 0), rI (nI s), rI (nI n)] D (some (rI (-2))) D := by
  refine CF.of [some (rR (14, 0, 0)), some (rI (nI s)), some (rI (nI n)), none] (by decide) (leb rfl) rfl ?_
  refine RD.iload_n (pc := 0) dX6_counter_0 rfl ?_
  refine RD.cS1 (pc := 1) dX6_counter_1 mlX6_75 (c_mIsSlot K _ D (nI s)) (leb rfl) ?_
  refine RD.if_eq (pc := 4) 17 dX6_counter_4 (by decide) (fun c4 => absurd c4 (bIin (by decide) hs)) (fun c4 => ?_)
  refine RD.iload_n (pc := 7) dX6_counter_7 rfl ?_
  refine RD.iconst (pc := 8) (v := 0) dX6_counter_8 (by decide) ?_
  refine RD.bipush (pc := 9) (v := 32) dX6_counter_9 (by decide) ?_
  refine RD.cS3 (pc := 11) dX6_counter_11 mlX6_63 (c_mIsIn K _ D (nI n) 32 (by decide)) (leb rfl) ?_
  refine RD.if_ne (pc := 14) 19 dX6_counter_14 (by decide) (fun c14 => ?_) (fun c14 => absurd c14 (bIin (by decide) hn))
  refine RD.aload_n (pc := 19) dX6_counter_19 rfl ?_
  refine RD.getR (pc := 20) dX6_counter_20 flX6_25 ok14 rfl rfl ?_
  refine RD.iload_n (pc := 23) dX6_counter_23 rfl ?_
  refine RD.iL (pc := 24) (n := 8) s (v := D (15, 5, 0) s) rfl dX6_counter_24 (ok15 (by decide)) rfl rfl hs (by decide) ?_
  refine RD.istore_n (pc := 25) (ls' := [some (rR (14, 0, 0)), some (rI (nI s)), some (rI (nI n)), some (rI (D (15, 5, 0) s))]) dX6_counter_25 (by decide) rfl ?_
  refine RD.iload_n (pc := 26) dX6_counter_26 rfl ?_
  refine RD.iload_n (pc := 27) dX6_counter_27 rfl ?_
  refine RD.icmp_ge (pc := 28) 34 dX6_counter_28 (by decide) (fun c28 => absurd c28 (Int32.not_le.mpr h)) (fun c28 => ?_)
  refine RD.bipush (pc := 31) (v := (-2)) dX6_counter_31 (by decide) ?_
  refine RD.ireturn (pc := 33) dX6_counter_33 rfl rfl ?_
  exact ⟨rfl, rfl⟩

set_option maxRecDepth 20000 in
set_option maxHeartbeats 1000000 in
theorem m_counter (K : EK) (d : Nat) (D : DT) {s n : Nat} (hs : s < 8) (hn : n < 33) (h : ¬ nI n < D (15, 5, 0) s) : CF K mX6_counter (d + 2) [rR (14, 0, 0), rI (nI s), rI (nI n)] D (some (rI (D (15, 5, 0) s))) (up D (15, 5, 0) s (nI n)) := by
  refine CF.of [some (rR (14, 0, 0)), some (rI (nI s)), some (rI (nI n)), none] (by decide) (leb rfl) rfl ?_
  refine RD.iload_n (pc := 0) dX6_counter_0 rfl ?_
  refine RD.cS1 (pc := 1) dX6_counter_1 mlX6_75 (c_mIsSlot K _ D (nI s)) (leb rfl) ?_
  refine RD.if_eq (pc := 4) 17 dX6_counter_4 (by decide) (fun c4 => absurd c4 (bIin (by decide) hs)) (fun c4 => ?_)
  refine RD.iload_n (pc := 7) dX6_counter_7 rfl ?_
  refine RD.iconst (pc := 8) (v := 0) dX6_counter_8 (by decide) ?_
  refine RD.bipush (pc := 9) (v := 32) dX6_counter_9 (by decide) ?_
  refine RD.cS3 (pc := 11) dX6_counter_11 mlX6_63 (c_mIsIn K _ D (nI n) 32 (by decide)) (leb rfl) ?_
  refine RD.if_ne (pc := 14) 19 dX6_counter_14 (by decide) (fun c14 => ?_) (fun c14 => absurd c14 (bIin (by decide) hn))
  refine RD.aload_n (pc := 19) dX6_counter_19 rfl ?_
  refine RD.getR (pc := 20) dX6_counter_20 flX6_25 ok14 rfl rfl ?_
  refine RD.iload_n (pc := 23) dX6_counter_23 rfl ?_
  refine RD.iL (pc := 24) (n := 8) s (v := D (15, 5, 0) s) rfl dX6_counter_24 (ok15 (by decide)) rfl rfl hs (by decide) ?_
  refine RD.istore_n (pc := 25) (ls' := [some (rR (14, 0, 0)), some (rI (nI s)), some (rI (nI n)), some (rI (D (15, 5, 0) s))]) dX6_counter_25 (by decide) rfl ?_
  refine RD.iload_n (pc := 26) dX6_counter_26 rfl ?_
  refine RD.iload_n (pc := 27) dX6_counter_27 rfl ?_
  refine RD.icmp_ge (pc := 28) 34 dX6_counter_28 (by decide) (fun c28 => ?_) (fun c28 => absurd (i32_nlt h) c28)
  refine RD.aload_n (pc := 34) dX6_counter_34 rfl ?_
  refine RD.getR (pc := 35) dX6_counter_35 flX6_25 ok14 rfl rfl ?_
  refine RD.iload_n (pc := 38) dX6_counter_38 rfl ?_
  refine RD.iload_n (pc := 39) dX6_counter_39 rfl ?_
  refine RD.iast (pc := 40) (n := 8) s dX6_counter_40 (ok15 (by decide)) rfl rfl hs (by decide) ?_
  refine RD.iload_n (pc := 41) dX6_counter_41 rfl ?_
  refine RD.ireturn (pc := 42) dX6_counter_42 rfl rfl ?_
  exact ⟨rfl, rfl⟩

theorem mnF_lt (D : DT) (l : Nat) : mnF D l ≤ 256 := cntN_le _ 256
theorem cnF_lt (D : DT) (r : Nat) : cnF D r ≤ 256 := cntN_le _ 256

set_option maxRecDepth 20000 in
set_option maxHeartbeats 1000000 in
theorem m_setTagN (K : EK) (d : Nat) {l t : Nat} (hl : l < 137) (ht : t < 256) (D : DT) (b : Int32) (hb : isB b) (h1 : ¬ b = 0) (h2 : D (15, 6, 0) (256 * l + t) = 0) (h3 : mnF D l = 16) : CF K mX6_setTag (d + 1) [rR (14, 0, 0), rI (nI l), rI (nI t), rI b] D (some (rI (-1))) D := by
  refine CF.of [some (rR (14, 0, 0)), some (rI (nI l)), some (rI (nI t)), some (rI b)] (by decide) (leb rfl) rfl ?_
  refine RD.iload_n (pc := 0) dX6_setTag_0 rfl ?_
  refine RD.if_eq (pc := 1) 31 dX6_setTag_1 (by decide) (fun c1 => absurd c1 h1) (fun c1 => ?_)
  refine RD.aload_n (pc := 4) dX6_setTag_4 rfl ?_
  refine RD.getR (pc := 5) dX6_setTag_5 flX6_29 ok14 rfl rfl ?_
  refine RD.sipush (pc := 8) (v := 256) dX6_setTag_8 (by decide) ?_
  refine RD.iload_n (pc := 11) dX6_setTag_11 rfl ?_
  refine RD.imul (pc := 12) dX6_setTag_12 ?_
  refine RD.eqI (pk_mul 256 l) ?_
  refine RD.iload_n (pc := 13) dX6_setTag_13 rfl ?_
  refine RD.iadd (pc := 14) dX6_setTag_14 ?_
  refine RD.eqI (nI_add (256 * l) t) ?_
  refine RD.zL (pc := 15) (n := 35072) ((256 * l) + t) (v := D (15, 6, 0) ((256 * l) + t)) rfl dX6_setTag_15 (ok15 (by decide)) rfl rfl (by omega) (by decide) ?_
  refine RD.if_ne (pc := 16) 31 dX6_setTag_16 (by decide) (fun c16 => absurd h2 c16) (fun c16 => ?_)
  refine RD.aload_n (pc := 19) dX6_setTag_19 rfl ?_
  refine RD.iload_n (pc := 20) dX6_setTag_20 rfl ?_
  refine RD.cV1 (pc := 21) dX6_setTag_21 mlX6_136 rfl ok14 rfl (c_many K _ (l := l) (by omega) D) (leb rfl) ?_
  refine RD.bipush (pc := 24) (v := 16) dX6_setTag_24 (by decide) ?_
  refine RD.icmp_ne (pc := 26) 31 dX6_setTag_26 (by decide) (fun c26 => absurd (by rw [h3]; rfl) c26) (fun c26 => ?_)
  refine RD.iconst (pc := 29) (v := (-1)) dX6_setTag_29 (by decide) ?_
  refine RD.ireturn (pc := 30) dX6_setTag_30 rfl rfl ?_
  exact ⟨rfl, rfl⟩

set_option maxRecDepth 20000 in
set_option maxHeartbeats 1000000 in
theorem m_setTag (K : EK) (d : Nat) {l t : Nat} (hl : l < 137) (ht : t < 256) (D : DT) (b : Int32) (hb : isB b) (h : b = 0 ∨ ¬ D (15, 6, 0) (256 * l + t) = 0 ∨ ¬ mnF D l = 16) : CF K mX6_setTag (d + 1) [rR (14, 0, 0), rI (nI l), rI (nI t), rI b] D (some (rI (nI (mnF (up D (15, 6, 0) (256 * l + t) b) l)))) (up D (15, 6, 0) (256 * l + t) b) := by
  refine CF.of [some (rR (14, 0, 0)), some (rI (nI l)), some (rI (nI t)), some (rI b)] (by decide) (leb rfl) rfl ?_
  refine RD.iload_n (pc := 0) dX6_setTag_0 rfl ?_
  refine RD.if_eq (pc := 1) 31 dX6_setTag_1 (by decide) (fun c1 => ?_) (fun c1 => ?_)
  · refine RD.aload_n (pc := 31) dX6_setTag_31 rfl ?_
    refine RD.getR (pc := 32) dX6_setTag_32 flX6_29 ok14 rfl rfl ?_
    refine RD.sipush (pc := 35) (v := 256) dX6_setTag_35 (by decide) ?_
    refine RD.iload_n (pc := 38) dX6_setTag_38 rfl ?_
    refine RD.imul (pc := 39) dX6_setTag_39 ?_
    refine RD.eqI (pk_mul 256 l) ?_
    refine RD.iload_n (pc := 40) dX6_setTag_40 rfl ?_
    refine RD.iadd (pc := 41) dX6_setTag_41 ?_
    refine RD.eqI (nI_add (256 * l) t) ?_
    refine RD.iload_n (pc := 42) dX6_setTag_42 rfl ?_
    refine RD.zast (pc := 43) (n := 35072) ((256 * l) + t) dX6_setTag_43 (ok15 (by decide)) rfl rfl (by omega) (by decide) (isB_nar hb) ?_
    refine RD.aload_n (pc := 44) dX6_setTag_44 rfl ?_
    refine RD.iload_n (pc := 45) dX6_setTag_45 rfl ?_
    refine RD.cV1 (pc := 46) dX6_setTag_46 mlX6_136 rfl ok14 rfl (c_many K _ (l := l) (by omega) (up D (15, 6, 0) ((256 * l) + t) b)) (leb rfl) ?_
    refine RD.ireturn (pc := 49) dX6_setTag_49 rfl rfl ?_
    exact ⟨rfl, rfl⟩
  · refine RD.aload_n (pc := 4) dX6_setTag_4 rfl ?_
    refine RD.getR (pc := 5) dX6_setTag_5 flX6_29 ok14 rfl rfl ?_
    refine RD.sipush (pc := 8) (v := 256) dX6_setTag_8 (by decide) ?_
    refine RD.iload_n (pc := 11) dX6_setTag_11 rfl ?_
    refine RD.imul (pc := 12) dX6_setTag_12 ?_
    refine RD.eqI (pk_mul 256 l) ?_
    refine RD.iload_n (pc := 13) dX6_setTag_13 rfl ?_
    refine RD.iadd (pc := 14) dX6_setTag_14 ?_
    refine RD.eqI (nI_add (256 * l) t) ?_
    refine RD.zL (pc := 15) (n := 35072) ((256 * l) + t) (v := D (15, 6, 0) ((256 * l) + t)) rfl dX6_setTag_15 (ok15 (by decide)) rfl rfl (by omega) (by decide) ?_
    refine RD.if_ne (pc := 16) 31 dX6_setTag_16 (by decide) (fun c16 => ?_) (fun c16 => ?_)
    · refine RD.aload_n (pc := 31) dX6_setTag_31 rfl ?_
      refine RD.getR (pc := 32) dX6_setTag_32 flX6_29 ok14 rfl rfl ?_
      refine RD.sipush (pc := 35) (v := 256) dX6_setTag_35 (by decide) ?_
      refine RD.iload_n (pc := 38) dX6_setTag_38 rfl ?_
      refine RD.imul (pc := 39) dX6_setTag_39 ?_
      refine RD.eqI (pk_mul 256 l) ?_
      refine RD.iload_n (pc := 40) dX6_setTag_40 rfl ?_
      refine RD.iadd (pc := 41) dX6_setTag_41 ?_
      refine RD.eqI (nI_add (256 * l) t) ?_
      refine RD.iload_n (pc := 42) dX6_setTag_42 rfl ?_
      refine RD.zast (pc := 43) (n := 35072) ((256 * l) + t) dX6_setTag_43 (ok15 (by decide)) rfl rfl (by omega) (by decide) (isB_nar hb) ?_
      refine RD.aload_n (pc := 44) dX6_setTag_44 rfl ?_
      refine RD.iload_n (pc := 45) dX6_setTag_45 rfl ?_
      refine RD.cV1 (pc := 46) dX6_setTag_46 mlX6_136 rfl ok14 rfl (c_many K _ (l := l) (by omega) (up D (15, 6, 0) ((256 * l) + t) b)) (leb rfl) ?_
      refine RD.ireturn (pc := 49) dX6_setTag_49 rfl rfl ?_
      exact ⟨rfl, rfl⟩
    · refine RD.aload_n (pc := 19) dX6_setTag_19 rfl ?_
      refine RD.iload_n (pc := 20) dX6_setTag_20 rfl ?_
      refine RD.cV1 (pc := 21) dX6_setTag_21 mlX6_136 rfl ok14 rfl (c_many K _ (l := l) (by omega) D) (leb rfl) ?_
      refine RD.bipush (pc := 24) (v := 16) dX6_setTag_24 (by decide) ?_
      refine RD.icmp_ne (pc := 26) 31 dX6_setTag_26 (by decide) (fun c26 => ?_) (fun c26 => ?_)
      · refine RD.aload_n (pc := 31) dX6_setTag_31 rfl ?_
        refine RD.getR (pc := 32) dX6_setTag_32 flX6_29 ok14 rfl rfl ?_
        refine RD.sipush (pc := 35) (v := 256) dX6_setTag_35 (by decide) ?_
        refine RD.iload_n (pc := 38) dX6_setTag_38 rfl ?_
        refine RD.imul (pc := 39) dX6_setTag_39 ?_
        refine RD.eqI (pk_mul 256 l) ?_
        refine RD.iload_n (pc := 40) dX6_setTag_40 rfl ?_
        refine RD.iadd (pc := 41) dX6_setTag_41 ?_
        refine RD.eqI (nI_add (256 * l) t) ?_
        refine RD.iload_n (pc := 42) dX6_setTag_42 rfl ?_
        refine RD.zast (pc := 43) (n := 35072) ((256 * l) + t) dX6_setTag_43 (ok15 (by decide)) rfl rfl (by omega) (by decide) (isB_nar hb) ?_
        refine RD.aload_n (pc := 44) dX6_setTag_44 rfl ?_
        refine RD.iload_n (pc := 45) dX6_setTag_45 rfl ?_
        refine RD.cV1 (pc := 46) dX6_setTag_46 mlX6_136 rfl ok14 rfl (c_many K _ (l := l) (by omega) (up D (15, 6, 0) ((256 * l) + t) b)) (leb rfl) ?_
        refine RD.ireturn (pc := 49) dX6_setTag_49 rfl rfl ?_
        exact ⟨rfl, rfl⟩
      · exfalso
        rcases h with h | h | h
        · exact c1 h
        · exact h c16
        · exact h ((nI_eq (b := 16) (Nat.lt_of_le_of_lt (mnF_lt D l) (by decide)) (by decide)).mp c26)

set_option maxRecDepth 20000 in
set_option maxHeartbeats 1000000 in
theorem m_tagN (K : EK) (d : Nat) (D : DT) (a t b : Int32) (h : ¬ (inR a 8 = true ∧ mthB D t = true)) : CF K mX6_tag (d + 2) [rR (14, 0, 0), rI a, rI t, rI b] D (some (rI (-1))) D := by
  refine CF.of [some (rR (14, 0, 0)), some (rI a), some (rI t), some (rI b)] (by decide) (leb rfl) rfl ?_
  refine RD.iload_n (pc := 0) dX6_tag_0 rfl ?_
  refine RD.cS1 (pc := 1) dX6_tag_1 mlX6_75 (c_mIsSlot K _ D a) (leb rfl) ?_
  refine RD.if_eq (pc := 4) 25 dX6_tag_4 (by decide) (fun c4 => ?_) (fun c4 => ?_)
  · refine RD.iconst (pc := 25) (v := (-1)) dX6_tag_25 (by decide) ?_
    refine RD.ireturn (pc := 26) dX6_tag_26 rfl rfl ?_
    exact ⟨rfl, rfl⟩
  · refine RD.aload_n (pc := 7) dX6_tag_7 rfl ?_
    refine RD.iload_n (pc := 8) dX6_tag_8 rfl ?_
    refine RD.cV1 (pc := 9) dX6_tag_9 mlX6_147 rfl ok14 rfl (c_mIsThere K _ D t) (leb rfl) ?_
    refine RD.if_eq (pc := 12) 25 dX6_tag_12 (by decide) (fun c12 => ?_) (fun c12 => ?_)
    · refine RD.iconst (pc := 25) (v := (-1)) dX6_tag_25 (by decide) ?_
      refine RD.ireturn (pc := 26) dX6_tag_26 rfl rfl ?_
      exact ⟨rfl, rfl⟩
    · exact absurd ⟨bI_1 c4, bI_1 c12⟩ h

set_option maxRecDepth 20000 in
set_option maxHeartbeats 1000000 in
theorem m_tag (K : EK) (d : Nat) (D : DT) {s : Nat} (hs : s < 8) {t : Nat} (b : Int32) (h : mthB D (nI t) = true) {r : Int32} {D2 : DT} (hc : CF K mX6_setTag (d + 1) [rR (14, 0, 0), rI (nI s), rI (nI t), rI b] D (some (rI r)) D2) : CF K mX6_tag (d + 2) [rR (14, 0, 0), rI (nI s), rI (nI t), rI b] D (some (rI r)) D2 := by
  refine CF.of [some (rR (14, 0, 0)), some (rI (nI s)), some (rI (nI t)), some (rI b)] (by decide) (leb rfl) rfl ?_
  refine RD.iload_n (pc := 0) dX6_tag_0 rfl ?_
  refine RD.cS1 (pc := 1) dX6_tag_1 mlX6_75 (c_mIsSlot K _ D (nI s)) (leb rfl) ?_
  refine RD.if_eq (pc := 4) 25 dX6_tag_4 (by decide) (fun c4 => absurd c4 (bIin (by decide) hs)) (fun c4 => ?_)
  refine RD.aload_n (pc := 7) dX6_tag_7 rfl ?_
  refine RD.iload_n (pc := 8) dX6_tag_8 rfl ?_
  refine RD.cV1 (pc := 9) dX6_tag_9 mlX6_147 rfl ok14 rfl (c_mIsThere K _ D (nI t)) (leb rfl) ?_
  refine RD.if_eq (pc := 12) 25 dX6_tag_12 (by decide) (fun c12 => absurd c12 (by rw [h]; decide)) (fun c12 => ?_)
  refine RD.aload_n (pc := 15) dX6_tag_15 rfl ?_
  refine RD.iload_n (pc := 16) dX6_tag_16 rfl ?_
  refine RD.iload_n (pc := 17) dX6_tag_17 rfl ?_
  refine RD.iload_n (pc := 18) dX6_tag_18 rfl ?_
  refine RD.cV3 (pc := 19) dX6_tag_19 mlX6_150 rfl ok14 rfl hc (leb rfl) ?_
  refine RD.goto (pc := 22) 26 dX6_tag_22 (by decide) ?_
  refine RD.ireturn (pc := 26) dX6_tag_26 rfl rfl ?_
  exact ⟨rfl, rfl⟩

set_option maxRecDepth 20000 in
set_option maxHeartbeats 1000000 in
theorem m_capabilityN (K : EK) (d : Nat) (D : DT) (a k t b : Int32) (h : ¬ (inR a 8 = true ∧ inR k 2 = true ∧ mthB D t = true)) : CF K mX6_capability (d + 2) [rR (14, 0, 0), rI a, rI k, rI t, rI b] D (some (rI (-1))) D := by
  refine CF.of [some (rR (14, 0, 0)), some (rI a), some (rI k), some (rI t), some (rI b), none] (by decide) (leb rfl) rfl ?_
  refine RD.iload_n (pc := 0) dX6_capability_0 rfl ?_
  refine RD.cS1 (pc := 1) dX6_capability_1 mlX6_75 (c_mIsSlot K _ D a) (leb rfl) ?_
  refine RD.if_eq (pc := 4) 24 dX6_capability_4 (by decide) (fun c4 => ?_) (fun c4 => ?_)
  · refine RD.iconst (pc := 24) (v := (-1)) dX6_capability_24 (by decide) ?_
    refine RD.ireturn (pc := 25) dX6_capability_25 rfl rfl ?_
    exact ⟨rfl, rfl⟩
  · refine RD.iload_n (pc := 7) dX6_capability_7 rfl ?_
    refine RD.iconst (pc := 8) (v := 0) dX6_capability_8 (by decide) ?_
    refine RD.iconst (pc := 9) (v := 1) dX6_capability_9 (by decide) ?_
    refine RD.cS3 (pc := 10) dX6_capability_10 mlX6_63 (c_mIsIn K _ D k 1 (by decide)) (leb rfl) ?_
    refine RD.if_eq (pc := 13) 24 dX6_capability_13 (by decide) (fun c13 => ?_) (fun c13 => ?_)
    · refine RD.iconst (pc := 24) (v := (-1)) dX6_capability_24 (by decide) ?_
      refine RD.ireturn (pc := 25) dX6_capability_25 rfl rfl ?_
      exact ⟨rfl, rfl⟩
    · refine RD.aload_n (pc := 16) dX6_capability_16 rfl ?_
      refine RD.iload_n (pc := 17) dX6_capability_17 rfl ?_
      refine RD.cV1 (pc := 18) dX6_capability_18 mlX6_147 rfl ok14 rfl (c_mIsThere K _ D t) (leb rfl) ?_
      refine RD.if_ne (pc := 21) 26 dX6_capability_21 (by decide) (fun c21 => ?_) (fun c21 => ?_)
      · exact absurd ⟨bI_1 c4, bI_1 c13, bI_1 c21⟩ h
      · refine RD.iconst (pc := 24) (v := (-1)) dX6_capability_24 (by decide) ?_
        refine RD.ireturn (pc := 25) dX6_capability_25 rfl rfl ?_
        exact ⟨rfl, rfl⟩

set_option maxRecDepth 20000 in
set_option maxHeartbeats 1000000 in
theorem m_capabilityF (K : EK) (d : Nat) (D : DT) {s q t : Nat} (hs : s < 8) (hq : q < 2) (ht : t < 256) (b : Int32) (hb : isB b) (h : mthB D (nI t) = true) (h1 : ¬ b = 0) (h2 : D (15, 7, 0) (256 * (8 * q + s) + t) = 0) (h3 : cnF D (8 * q + s) = 40) : CF K mX6_capability (d + 2) [rR (14, 0, 0), rI (nI s), rI (nI q), rI (nI t), rI b] D (some (rI (-1))) D := by
  refine CF.of [some (rR (14, 0, 0)), some (rI (nI s)), some (rI (nI q)), some (rI (nI t)), some (rI b), none] (by decide) (leb rfl) rfl ?_
  refine RD.iload_n (pc := 0) dX6_capability_0 rfl ?_
  refine RD.cS1 (pc := 1) dX6_capability_1 mlX6_75 (c_mIsSlot K _ D (nI s)) (leb rfl) ?_
  refine RD.if_eq (pc := 4) 24 dX6_capability_4 (by decide) (fun c4 => absurd c4 (bIin (by decide) hs)) (fun c4 => ?_)
  refine RD.iload_n (pc := 7) dX6_capability_7 rfl ?_
  refine RD.iconst (pc := 8) (v := 0) dX6_capability_8 (by decide) ?_
  refine RD.iconst (pc := 9) (v := 1) dX6_capability_9 (by decide) ?_
  refine RD.cS3 (pc := 10) dX6_capability_10 mlX6_63 (c_mIsIn K _ D (nI q) 1 (by decide)) (leb rfl) ?_
  refine RD.if_eq (pc := 13) 24 dX6_capability_13 (by decide) (fun c13 => absurd c13 (bIin (by decide) hq)) (fun c13 => ?_)
  refine RD.aload_n (pc := 16) dX6_capability_16 rfl ?_
  refine RD.iload_n (pc := 17) dX6_capability_17 rfl ?_
  refine RD.cV1 (pc := 18) dX6_capability_18 mlX6_147 rfl ok14 rfl (c_mIsThere K _ D (nI t)) (leb rfl) ?_
  refine RD.if_ne (pc := 21) 26 dX6_capability_21 (by decide) (fun c21 => ?_) (fun c21 => absurd c21 (by rw [h]; decide))
  refine RD.aload_n (pc := 26) dX6_capability_26 rfl ?_
  refine RD.iload_n (pc := 27) dX6_capability_27 rfl ?_
  refine RD.iload_n (pc := 28) dX6_capability_28 rfl ?_
  refine RD.iload_n (pc := 29) dX6_capability_29 rfl ?_
  refine RD.cV3 (pc := 30) dX6_capability_30 mlX6_67 rfl ok14 rfl (c_at K _ D s q t) (leb rfl) ?_
  refine RD.istore (pc := 33) (ls' := [some (rR (14, 0, 0)), some (rI (nI s)), some (rI (nI q)), some (rI (nI t)), some (rI b), some (rI (nI (256 * (8 * q + s) + t)))]) dX6_capability_33 (by decide) rfl ?_
  refine RD.iload (pc := 35) dX6_capability_35 rfl ?_
  refine RD.if_eq (pc := 37) 63 dX6_capability_37 (by decide) (fun c37 => absurd c37 h1) (fun c37 => ?_)
  refine RD.aload_n (pc := 40) dX6_capability_40 rfl ?_
  refine RD.getR (pc := 41) dX6_capability_41 flX6_33 ok14 rfl rfl ?_
  refine RD.iload (pc := 44) dX6_capability_44 rfl ?_
  refine RD.zL (pc := 46) (n := 4096) (256 * (8 * q + s) + t) (v := D (15, 7, 0) (256 * (8 * q + s) + t)) rfl dX6_capability_46 (ok15 (by decide)) rfl rfl (by omega) (by decide) ?_
  refine RD.if_ne (pc := 47) 63 dX6_capability_47 (by decide) (fun c47 => absurd h2 c47) (fun c47 => ?_)
  refine RD.aload_n (pc := 50) dX6_capability_50 rfl ?_
  refine RD.iload_n (pc := 51) dX6_capability_51 rfl ?_
  refine RD.iload_n (pc := 52) dX6_capability_52 rfl ?_
  refine RD.cV2 (pc := 53) dX6_capability_53 mlX6_139 rfl ok14 rfl (c_capab K _ (s := s) (q := q) (by omega) (by omega) D) (leb rfl) ?_
  refine RD.bipush (pc := 56) (v := 40) dX6_capability_56 (by decide) ?_
  refine RD.icmp_ne (pc := 58) 63 dX6_capability_58 (by decide) (fun c58 => absurd (by rw [h3]; rfl) c58) (fun c58 => ?_)
  refine RD.iconst (pc := 61) (v := (-1)) dX6_capability_61 (by decide) ?_
  refine RD.ireturn (pc := 62) dX6_capability_62 rfl rfl ?_
  exact ⟨rfl, rfl⟩

set_option maxRecDepth 20000 in
set_option maxHeartbeats 1000000 in
theorem m_capability (K : EK) (d : Nat) (D : DT) {s q t : Nat} (hs : s < 8) (hq : q < 2) (ht : t < 256) (b : Int32) (hb : isB b) (h : mthB D (nI t) = true) (h5 : b = 0 ∨ ¬ D (15, 7, 0) (256 * (8 * q + s) + t) = 0 ∨ ¬ cnF D (8 * q + s) = 40) : CF K mX6_capability (d + 2) [rR (14, 0, 0), rI (nI s), rI (nI q), rI (nI t), rI b] D (some (rI (nI (cnF (up D (15, 7, 0) (256 * (8 * q + s) + t) b) (8 * q + s))))) (up D (15, 7, 0) (256 * (8 * q + s) + t) b) := by
  refine CF.of [some (rR (14, 0, 0)), some (rI (nI s)), some (rI (nI q)), some (rI (nI t)), some (rI b), none] (by decide) (leb rfl) rfl ?_
  refine RD.iload_n (pc := 0) dX6_capability_0 rfl ?_
  refine RD.cS1 (pc := 1) dX6_capability_1 mlX6_75 (c_mIsSlot K _ D (nI s)) (leb rfl) ?_
  refine RD.if_eq (pc := 4) 24 dX6_capability_4 (by decide) (fun c4 => absurd c4 (bIin (by decide) hs)) (fun c4 => ?_)
  refine RD.iload_n (pc := 7) dX6_capability_7 rfl ?_
  refine RD.iconst (pc := 8) (v := 0) dX6_capability_8 (by decide) ?_
  refine RD.iconst (pc := 9) (v := 1) dX6_capability_9 (by decide) ?_
  refine RD.cS3 (pc := 10) dX6_capability_10 mlX6_63 (c_mIsIn K _ D (nI q) 1 (by decide)) (leb rfl) ?_
  refine RD.if_eq (pc := 13) 24 dX6_capability_13 (by decide) (fun c13 => absurd c13 (bIin (by decide) hq)) (fun c13 => ?_)
  refine RD.aload_n (pc := 16) dX6_capability_16 rfl ?_
  refine RD.iload_n (pc := 17) dX6_capability_17 rfl ?_
  refine RD.cV1 (pc := 18) dX6_capability_18 mlX6_147 rfl ok14 rfl (c_mIsThere K _ D (nI t)) (leb rfl) ?_
  refine RD.if_ne (pc := 21) 26 dX6_capability_21 (by decide) (fun c21 => ?_) (fun c21 => absurd c21 (by rw [h]; decide))
  refine RD.aload_n (pc := 26) dX6_capability_26 rfl ?_
  refine RD.iload_n (pc := 27) dX6_capability_27 rfl ?_
  refine RD.iload_n (pc := 28) dX6_capability_28 rfl ?_
  refine RD.iload_n (pc := 29) dX6_capability_29 rfl ?_
  refine RD.cV3 (pc := 30) dX6_capability_30 mlX6_67 rfl ok14 rfl (c_at K _ D s q t) (leb rfl) ?_
  refine RD.istore (pc := 33) (ls' := [some (rR (14, 0, 0)), some (rI (nI s)), some (rI (nI q)), some (rI (nI t)), some (rI b), some (rI (nI (256 * (8 * q + s) + t)))]) dX6_capability_33 (by decide) rfl ?_
  refine RD.iload (pc := 35) dX6_capability_35 rfl ?_
  refine RD.if_eq (pc := 37) 63 dX6_capability_37 (by decide) (fun c37 => ?_) (fun c37 => ?_)
  · refine RD.aload_n (pc := 63) dX6_capability_63 rfl ?_
    refine RD.getR (pc := 64) dX6_capability_64 flX6_33 ok14 rfl rfl ?_
    refine RD.iload (pc := 67) dX6_capability_67 rfl ?_
    refine RD.iload (pc := 69) dX6_capability_69 rfl ?_
    refine RD.zast (pc := 71) (n := 4096) (256 * (8 * q + s) + t) dX6_capability_71 (ok15 (by decide)) rfl rfl (by omega) (by decide) (isB_nar hb) ?_
    refine RD.aload_n (pc := 72) dX6_capability_72 rfl ?_
    refine RD.iload_n (pc := 73) dX6_capability_73 rfl ?_
    refine RD.iload_n (pc := 74) dX6_capability_74 rfl ?_
    refine RD.cV2 (pc := 75) dX6_capability_75 mlX6_139 rfl ok14 rfl (c_capab K _ (s := s) (q := q) (by omega) (by omega) (up D (15, 7, 0) (256 * (8 * q + s) + t) b)) (leb rfl) ?_
    refine RD.ireturn (pc := 78) dX6_capability_78 rfl rfl ?_
    exact ⟨rfl, rfl⟩
  · refine RD.aload_n (pc := 40) dX6_capability_40 rfl ?_
    refine RD.getR (pc := 41) dX6_capability_41 flX6_33 ok14 rfl rfl ?_
    refine RD.iload (pc := 44) dX6_capability_44 rfl ?_
    refine RD.zL (pc := 46) (n := 4096) (256 * (8 * q + s) + t) (v := D (15, 7, 0) (256 * (8 * q + s) + t)) rfl dX6_capability_46 (ok15 (by decide)) rfl rfl (by omega) (by decide) ?_
    refine RD.if_ne (pc := 47) 63 dX6_capability_47 (by decide) (fun c47 => ?_) (fun c47 => ?_)
    · refine RD.aload_n (pc := 63) dX6_capability_63 rfl ?_
      refine RD.getR (pc := 64) dX6_capability_64 flX6_33 ok14 rfl rfl ?_
      refine RD.iload (pc := 67) dX6_capability_67 rfl ?_
      refine RD.iload (pc := 69) dX6_capability_69 rfl ?_
      refine RD.zast (pc := 71) (n := 4096) (256 * (8 * q + s) + t) dX6_capability_71 (ok15 (by decide)) rfl rfl (by omega) (by decide) (isB_nar hb) ?_
      refine RD.aload_n (pc := 72) dX6_capability_72 rfl ?_
      refine RD.iload_n (pc := 73) dX6_capability_73 rfl ?_
      refine RD.iload_n (pc := 74) dX6_capability_74 rfl ?_
      refine RD.cV2 (pc := 75) dX6_capability_75 mlX6_139 rfl ok14 rfl (c_capab K _ (s := s) (q := q) (by omega) (by omega) (up D (15, 7, 0) (256 * (8 * q + s) + t) b)) (leb rfl) ?_
      refine RD.ireturn (pc := 78) dX6_capability_78 rfl rfl ?_
      exact ⟨rfl, rfl⟩
    · refine RD.aload_n (pc := 50) dX6_capability_50 rfl ?_
      refine RD.iload_n (pc := 51) dX6_capability_51 rfl ?_
      refine RD.iload_n (pc := 52) dX6_capability_52 rfl ?_
      refine RD.cV2 (pc := 53) dX6_capability_53 mlX6_139 rfl ok14 rfl (c_capab K _ (s := s) (q := q) (by omega) (by omega) D) (leb rfl) ?_
      refine RD.bipush (pc := 56) (v := 40) dX6_capability_56 (by decide) ?_
      refine RD.icmp_ne (pc := 58) 63 dX6_capability_58 (by decide) (fun c58 => ?_) (fun c58 => ?_)
      · refine RD.aload_n (pc := 63) dX6_capability_63 rfl ?_
        refine RD.getR (pc := 64) dX6_capability_64 flX6_33 ok14 rfl rfl ?_
        refine RD.iload (pc := 67) dX6_capability_67 rfl ?_
        refine RD.iload (pc := 69) dX6_capability_69 rfl ?_
        refine RD.zast (pc := 71) (n := 4096) (256 * (8 * q + s) + t) dX6_capability_71 (ok15 (by decide)) rfl rfl (by omega) (by decide) (isB_nar hb) ?_
        refine RD.aload_n (pc := 72) dX6_capability_72 rfl ?_
        refine RD.iload_n (pc := 73) dX6_capability_73 rfl ?_
        refine RD.iload_n (pc := 74) dX6_capability_74 rfl ?_
        refine RD.cV2 (pc := 75) dX6_capability_75 mlX6_139 rfl ok14 rfl (c_capab K _ (s := s) (q := q) (by omega) (by omega) (up D (15, 7, 0) (256 * (8 * q + s) + t) b)) (leb rfl) ?_
        refine RD.ireturn (pc := 78) dX6_capability_78 rfl rfl ?_
        exact ⟨rfl, rfl⟩
      · exfalso
        rcases h5 with h | h | h
        · exact c37 h
        · exact h c47
        · exact h ((nI_eq (b := 40) (Nat.lt_of_le_of_lt (cnF_lt D _) (by decide)) (by decide)).mp c58)


def mthr (D : DT) (n : Nat) : Bool := !decide (D (15, 8, 0) n = 0)
def mfcB (D : DT) (k i : Int32) : Bool := inR k 64 && (inR i 8 && mthr D k.toNatClampNeg)
theorem mfcB_k {D : DT} {k i : Int32} (h : inR k 64 = false) : mfcB D k i = false := by rw [mfcB, h, Bool.false_and]
theorem mfcB_i {D : DT} {k i : Int32} (h : inR i 8 = false) : mfcB D k i = false := by rw [mfcB, h, Bool.false_and, Bool.and_false]
theorem mfcB_t {D : DT} {n : Nat} {i : Int32} (hn : n < 64) (h : mthr D n = false) : mfcB D (nI n) i = false := by rw [mfcB, nI_clamp (by omega), h, Bool.and_false, Bool.and_false]
theorem mfcB_nI {D : DT} {n e : Nat} (hn : n < 64) (he : e < 8) : mfcB D (nI n) (nI e) = mthr D n := by
  rw [mfcB, inR_nI (by decide) hn, inR_nI (by decide) he, nI_clamp (by omega), Bool.true_and, Bool.true_and]

set_option maxRecDepth 20000 in
set_option maxHeartbeats 1000000 in
theorem m_isContent (K : EK) (d : Nat) (D : DT) (k i : Int32) : CF K mX6_isContent (d + 1) [rR (14, 0, 0), rI k, rI i] D (some (rI (bI (mfcB D k i)))) D := by
  refine CF.of [some (rR (14, 0, 0)), some (rI k), some (rI i)] (by decide) (leb rfl) rfl ?_
  refine RD.iload_n (pc := 0) dX6_isContent_0 rfl ?_
  refine RD.iconst (pc := 1) (v := 0) dX6_isContent_1 (by decide) ?_
  refine RD.bipush (pc := 2) (v := 63) dX6_isContent_2 (by decide) ?_
  refine RD.cS3 (pc := 4) dX6_isContent_4 mlX6_63 (c_mIsIn K _ D k 63 (by decide)) (leb rfl) ?_
  refine RD.if_eq (pc := 7) 33 dX6_isContent_7 (by decide) (fun c7 => ?_) (fun c7 => ?_)
  · refine RD.iconst (pc := 33) (v := 0) dX6_isContent_33 (by decide) ?_
    refine RD.ireturn (pc := 34) dX6_isContent_34 rfl rfl ?_
    exact ⟨by rw [mfcB_k (bI_0 c7)]; rfl, rfl⟩
  · obtain ⟨n, hn, rfl⟩ := inR_t (N := 64) (by decide) (bI_1 c7)
    refine RD.aload_n (pc := 10) dX6_isContent_10 rfl ?_
    refine RD.getR (pc := 11) dX6_isContent_11 flX6_36 ok14 rfl rfl ?_
    refine RD.iload_n (pc := 14) dX6_isContent_14 rfl ?_
    refine RD.zL (pc := 15) (n := 64) n (v := D (15, 8, 0) n) rfl dX6_isContent_15 (ok15 (by decide)) rfl rfl hn (by decide) ?_
    refine RD.if_eq (pc := 16) 33 dX6_isContent_16 (by decide) (fun c16 => ?_) (fun c16 => ?_)
    · refine RD.iconst (pc := 33) (v := 0) dX6_isContent_33 (by decide) ?_
      refine RD.ireturn (pc := 34) dX6_isContent_34 rfl rfl ?_
      exact ⟨by rw [mfcB_t hn (by simp [mthr, c16])]; rfl, rfl⟩
    · refine RD.iload_n (pc := 19) dX6_isContent_19 rfl ?_
      refine RD.iconst (pc := 20) (v := 0) dX6_isContent_20 (by decide) ?_
      refine RD.bipush (pc := 21) (v := 7) dX6_isContent_21 (by decide) ?_
      refine RD.cS3 (pc := 23) dX6_isContent_23 mlX6_63 (c_mIsIn K _ D i 7 (by decide)) (leb rfl) ?_
      refine RD.if_eq (pc := 26) 33 dX6_isContent_26 (by decide) (fun c26 => ?_) (fun c26 => ?_)
      · refine RD.iconst (pc := 33) (v := 0) dX6_isContent_33 (by decide) ?_
        refine RD.ireturn (pc := 34) dX6_isContent_34 rfl rfl ?_
        exact ⟨by rw [mfcB_i (bI_0 c26)]; rfl, rfl⟩
      · refine RD.iconst (pc := 29) (v := 1) dX6_isContent_29 (by decide) ?_
        refine RD.goto (pc := 30) 34 dX6_isContent_30 (by decide) ?_
        refine RD.ireturn (pc := 34) dX6_isContent_34 rfl rfl ?_
        exact ⟨by simp [mfcB, bI_1 c26, inR_nI (n := n) (N := 64) (by decide) hn, nI_clamp (n := n) (by omega), mthr, c16, bI], rfl⟩

set_option maxRecDepth 20000 in
set_option maxHeartbeats 1000000 in
theorem m_fillN (K : EK) (d : Nat) (D : DT) (k i v : Int32) (h : mfcB D k i = false) : CF K mX6_fill (d + 2) [rR (14, 0, 0), rI k, rI i, rI v] D (some (rI 0)) D := by
  refine CF.of [some (rR (14, 0, 0)), some (rI k), some (rI i), some (rI v), none] (by decide) (leb rfl) rfl ?_
  refine RD.aload_n (pc := 0) dX6_fill_0 rfl ?_
  refine RD.iload_n (pc := 1) dX6_fill_1 rfl ?_
  refine RD.iload_n (pc := 2) dX6_fill_2 rfl ?_
  refine RD.cV2 (pc := 3) dX6_fill_3 mlX6_154 rfl ok14 rfl (m_isContent K _ D k i) (leb rfl) ?_
  refine RD.if_ne (pc := 6) 11 dX6_fill_6 (by decide) (fun c6 => absurd (by rw [h]; rfl) c6) (fun c6 => ?_)
  refine RD.iconst (pc := 9) (v := 0) dX6_fill_9 (by decide) ?_
  refine RD.ireturn (pc := 10) dX6_fill_10 rfl rfl ?_
  exact ⟨rfl, rfl⟩

set_option maxRecDepth 20000 in
set_option maxHeartbeats 1000000 in
theorem m_fill (K : EK) (d : Nat) (D : DT) {n e : Nat} (hn : n < 64) (he : e < 8) (v : Int32) (h : mthr D n = true) : CF K mX6_fill (d + 2) [rR (14, 0, 0), rI (nI n), rI (nI e), rI v] D (some (rI (D (15, 9, 0) (8 * n + e)))) (up D (15, 9, 0) (8 * n + e) v) := by
  refine CF.of [some (rR (14, 0, 0)), some (rI (nI n)), some (rI (nI e)), some (rI v), none] (by decide) (leb rfl) rfl ?_
  refine RD.aload_n (pc := 0) dX6_fill_0 rfl ?_
  refine RD.iload_n (pc := 1) dX6_fill_1 rfl ?_
  refine RD.iload_n (pc := 2) dX6_fill_2 rfl ?_
  refine RD.cV2 (pc := 3) dX6_fill_3 mlX6_154 rfl ok14 rfl (m_isContent K _ D (nI n) (nI e)) (leb rfl) ?_
  refine RD.if_ne (pc := 6) 11 dX6_fill_6 (by decide) (fun c6 => ?_) (fun c6 => absurd c6 (by rw [mfcB_nI hn he, h]; decide))
  refine RD.aload_n (pc := 11) dX6_fill_11 rfl ?_
  refine RD.getR (pc := 12) dX6_fill_12 flX6_39 ok14 rfl rfl ?_
  refine RD.bipush (pc := 15) (v := 8) dX6_fill_15 (by decide) ?_
  refine RD.iload_n (pc := 17) dX6_fill_17 rfl ?_
  refine RD.imul (pc := 18) dX6_fill_18 ?_
  refine RD.eqI (pk_mul 8 n) ?_
  refine RD.iload_n (pc := 19) dX6_fill_19 rfl ?_
  refine RD.iadd (pc := 20) dX6_fill_20 ?_
  refine RD.eqI (nI_add (8 * n) e) ?_
  refine RD.iL (pc := 21) (n := 512) ((8 * n) + e) (v := D (15, 9, 0) ((8 * n) + e)) rfl dX6_fill_21 (ok15 (by decide)) rfl rfl (by omega) (by decide) ?_
  refine RD.istore (pc := 22) (ls' := [some (rR (14, 0, 0)), some (rI (nI n)), some (rI (nI e)), some (rI v), some (rI (D (15, 9, 0) ((8 * n) + e)))]) dX6_fill_22 (by decide) rfl ?_
  refine RD.aload_n (pc := 24) dX6_fill_24 rfl ?_
  refine RD.getR (pc := 25) dX6_fill_25 flX6_39 ok14 rfl rfl ?_
  refine RD.bipush (pc := 28) (v := 8) dX6_fill_28 (by decide) ?_
  refine RD.iload_n (pc := 30) dX6_fill_30 rfl ?_
  refine RD.imul (pc := 31) dX6_fill_31 ?_
  refine RD.eqI (pk_mul 8 n) ?_
  refine RD.iload_n (pc := 32) dX6_fill_32 rfl ?_
  refine RD.iadd (pc := 33) dX6_fill_33 ?_
  refine RD.eqI (nI_add (8 * n) e) ?_
  refine RD.iload_n (pc := 34) dX6_fill_34 rfl ?_
  refine RD.iast (pc := 35) (n := 512) ((8 * n) + e) dX6_fill_35 (ok15 (by decide)) rfl rfl (by omega) (by decide) ?_
  refine RD.iload (pc := 36) dX6_fill_36 rfl ?_
  refine RD.ireturn (pc := 38) dX6_fill_38 rfl rfl ?_
  exact ⟨rfl, rfl⟩

set_option maxRecDepth 20000 in
set_option maxHeartbeats 1000000 in
theorem m_contentN (K : EK) (d : Nat) (D : DT) (k i : Int32) (h : mfcB D k i = false) : CF K mX6_content (d + 2) [rR (14, 0, 0), rI k, rI i] D (some (rI 0)) D := by
  refine CF.of [some (rR (14, 0, 0)), some (rI k), some (rI i)] (by decide) (leb rfl) rfl ?_
  refine RD.aload_n (pc := 0) dX6_content_0 rfl ?_
  refine RD.iload_n (pc := 1) dX6_content_1 rfl ?_
  refine RD.iload_n (pc := 2) dX6_content_2 rfl ?_
  refine RD.cV2 (pc := 3) dX6_content_3 mlX6_154 rfl ok14 rfl (m_isContent K _ D k i) (leb rfl) ?_
  refine RD.if_eq (pc := 6) 23 dX6_content_6 (by decide) (fun c6 => ?_) (fun c6 => absurd (by rw [h]; rfl) c6)
  refine RD.iconst (pc := 23) (v := 0) dX6_content_23 (by decide) ?_
  refine RD.ireturn (pc := 24) dX6_content_24 rfl rfl ?_
  exact ⟨rfl, rfl⟩

set_option maxRecDepth 20000 in
set_option maxHeartbeats 1000000 in
theorem m_content (K : EK) (d : Nat) (D : DT) {n e : Nat} (hn : n < 64) (he : e < 8) (h : mthr D n = true) : CF K mX6_content (d + 2) [rR (14, 0, 0), rI (nI n), rI (nI e)] D (some (rI (D (15, 9, 0) (8 * n + e)))) D := by
  refine CF.of [some (rR (14, 0, 0)), some (rI (nI n)), some (rI (nI e))] (by decide) (leb rfl) rfl ?_
  refine RD.aload_n (pc := 0) dX6_content_0 rfl ?_
  refine RD.iload_n (pc := 1) dX6_content_1 rfl ?_
  refine RD.iload_n (pc := 2) dX6_content_2 rfl ?_
  refine RD.cV2 (pc := 3) dX6_content_3 mlX6_154 rfl ok14 rfl (m_isContent K _ D (nI n) (nI e)) (leb rfl) ?_
  refine RD.if_eq (pc := 6) 23 dX6_content_6 (by decide) (fun c6 => absurd c6 (by rw [mfcB_nI hn he, h]; decide)) (fun c6 => ?_)
  refine RD.aload_n (pc := 9) dX6_content_9 rfl ?_
  refine RD.getR (pc := 10) dX6_content_10 flX6_39 ok14 rfl rfl ?_
  refine RD.bipush (pc := 13) (v := 8) dX6_content_13 (by decide) ?_
  refine RD.iload_n (pc := 15) dX6_content_15 rfl ?_
  refine RD.imul (pc := 16) dX6_content_16 ?_
  refine RD.eqI (pk_mul 8 n) ?_
  refine RD.iload_n (pc := 17) dX6_content_17 rfl ?_
  refine RD.iadd (pc := 18) dX6_content_18 ?_
  refine RD.eqI (nI_add (8 * n) e) ?_
  refine RD.iL (pc := 19) (n := 512) ((8 * n) + e) (v := D (15, 9, 0) ((8 * n) + e)) rfl dX6_content_19 (ok15 (by decide)) rfl rfl (by omega) (by decide) ?_
  refine RD.goto (pc := 20) 24 dX6_content_20 (by decide) ?_
  refine RD.ireturn (pc := 24) dX6_content_24 rfl rfl ?_
  exact ⟨rfl, rfl⟩

set_option maxRecDepth 20000 in
set_option maxHeartbeats 1000000 in
theorem m_fileTagsO (K : EK) (d : Nat) (D : DT) (k : Int32) (h : inR k 64 = false) : CF K mX6_fileTags (d + 1) [rR (14, 0, 0), rI k] D (some (rI (-1))) D := by
  refine CF.of [some (rR (14, 0, 0)), some (rI k)] (by decide) (leb rfl) rfl ?_
  refine RD.iload_n (pc := 0) dX6_fileTags_0 rfl ?_
  refine RD.iconst (pc := 1) (v := 0) dX6_fileTags_1 (by decide) ?_
  refine RD.bipush (pc := 2) (v := 63) dX6_fileTags_2 (by decide) ?_
  refine RD.cS3 (pc := 4) dX6_fileTags_4 mlX6_63 (c_mIsIn K _ D k 63 (by decide)) (leb rfl) ?_
  refine RD.if_eq (pc := 7) 30 dX6_fileTags_7 (by decide) (fun c7 => ?_) (fun c7 => absurd (bIout h) c7)
  refine RD.iconst (pc := 30) (v := (-1)) dX6_fileTags_30 (by decide) ?_
  refine RD.ireturn (pc := 31) dX6_fileTags_31 rfl rfl ?_
  exact ⟨rfl, rfl⟩

set_option maxRecDepth 20000 in
set_option maxHeartbeats 1000000 in
theorem m_fileTagsN (K : EK) (d : Nat) (D : DT) {n : Nat} (hn : n < 64) (h : mthr D n = false) : CF K mX6_fileTags (d + 1) [rR (14, 0, 0), rI (nI n)] D (some (rI (-1))) D := by
  refine CF.of [some (rR (14, 0, 0)), some (rI (nI n))] (by decide) (leb rfl) rfl ?_
  refine RD.iload_n (pc := 0) dX6_fileTags_0 rfl ?_
  refine RD.iconst (pc := 1) (v := 0) dX6_fileTags_1 (by decide) ?_
  refine RD.bipush (pc := 2) (v := 63) dX6_fileTags_2 (by decide) ?_
  refine RD.cS3 (pc := 4) dX6_fileTags_4 mlX6_63 (c_mIsIn K _ D (nI n) 63 (by decide)) (leb rfl) ?_
  refine RD.if_eq (pc := 7) 30 dX6_fileTags_7 (by decide) (fun c7 => absurd c7 (bIin (by decide) hn)) (fun c7 => ?_)
  refine RD.aload_n (pc := 10) dX6_fileTags_10 rfl ?_
  refine RD.getR (pc := 11) dX6_fileTags_11 flX6_36 ok14 rfl rfl ?_
  refine RD.iload_n (pc := 14) dX6_fileTags_14 rfl ?_
  refine RD.zL (pc := 15) (n := 64) n (v := D (15, 8, 0) n) rfl dX6_fileTags_15 (ok15 (by decide)) rfl rfl hn (by decide) ?_
  refine RD.if_eq (pc := 16) 30 dX6_fileTags_16 (by decide) (fun c16 => ?_) (fun c16 => absurd (by simpa [mthr] using h) c16)
  refine RD.iconst (pc := 30) (v := (-1)) dX6_fileTags_30 (by decide) ?_
  refine RD.ireturn (pc := 31) dX6_fileTags_31 rfl rfl ?_
  exact ⟨rfl, rfl⟩

set_option maxRecDepth 20000 in
set_option maxHeartbeats 1000000 in
theorem m_fileTags (K : EK) (d : Nat) (D : DT) {n : Nat} (hn : n < 64) (h : mthr D n = true) : CF K mX6_fileTags (d + 1) [rR (14, 0, 0), rI (nI n)] D (some (rI (nI (mnF D (8 + n))))) D := by
  refine CF.of [some (rR (14, 0, 0)), some (rI (nI n))] (by decide) (leb rfl) rfl ?_
  refine RD.iload_n (pc := 0) dX6_fileTags_0 rfl ?_
  refine RD.iconst (pc := 1) (v := 0) dX6_fileTags_1 (by decide) ?_
  refine RD.bipush (pc := 2) (v := 63) dX6_fileTags_2 (by decide) ?_
  refine RD.cS3 (pc := 4) dX6_fileTags_4 mlX6_63 (c_mIsIn K _ D (nI n) 63 (by decide)) (leb rfl) ?_
  refine RD.if_eq (pc := 7) 30 dX6_fileTags_7 (by decide) (fun c7 => absurd c7 (bIin (by decide) hn)) (fun c7 => ?_)
  refine RD.aload_n (pc := 10) dX6_fileTags_10 rfl ?_
  refine RD.getR (pc := 11) dX6_fileTags_11 flX6_36 ok14 rfl rfl ?_
  refine RD.iload_n (pc := 14) dX6_fileTags_14 rfl ?_
  refine RD.zL (pc := 15) (n := 64) n (v := D (15, 8, 0) n) rfl dX6_fileTags_15 (ok15 (by decide)) rfl rfl hn (by decide) ?_
  refine RD.if_eq (pc := 16) 30 dX6_fileTags_16 (by decide) (fun c16 => absurd c16 (by simpa [mthr] using h)) (fun c16 => ?_)
  refine RD.aload_n (pc := 19) dX6_fileTags_19 rfl ?_
  refine RD.bipush (pc := 20) (v := 8) dX6_fileTags_20 (by decide) ?_
  refine RD.iload_n (pc := 22) dX6_fileTags_22 rfl ?_
  refine RD.iadd (pc := 23) dX6_fileTags_23 ?_
  refine RD.eqI (nI_add 8 n) ?_
  refine RD.cV1 (pc := 24) dX6_fileTags_24 mlX6_136 rfl ok14 rfl (c_many K _ (l := (8 + n)) (by omega) D) (leb rfl) ?_
  refine RD.goto (pc := 27) 31 dX6_fileTags_27 (by decide) ?_
  refine RD.ireturn (pc := 31) dX6_fileTags_31 rfl rfl ?_
  exact ⟨rfl, rfl⟩

theorem comF_z {D : DT} {f t : Nat} {v kd : Int32} {z : Nat} : comF D f t v kd z (15, 10, 0) t = nI (z + 1) := by rw [comF, up_s]

set_option maxRecDepth 20000 in
set_option maxHeartbeats 1000000 in
theorem m_post (K : EK) (d : Nat) (D : DT) {f t z : Nat} (hf : f < 8) (ht : t < 8) (v : Int32) (hz : D (15, 10, 0) t = nI z) (hz8 : z < 8) (hB : ∀ u, u < 256 → isB (D (15, 6, 0) (256 * f + u))) : CF K mX6_post (d + 2) [rR (14, 0, 0), rI (nI f), rI (nI t), rI v] D (some (rI (nI (z + 1)))) (comF D f t v (-1) z) := by
  refine CF.of [some (rR (14, 0, 0)), some (rI (nI f)), some (rI (nI t)), some (rI v)] (by decide) (leb rfl) rfl ?_
  refine RD.iload_n (pc := 0) dX6_post_0 rfl ?_
  refine RD.cS1 (pc := 1) dX6_post_1 mlX6_75 (c_mIsSlot K _ D (nI f)) (leb rfl) ?_
  refine RD.if_eq (pc := 4) 25 dX6_post_4 (by decide) (fun c4 => absurd c4 (bIin (by decide) hf)) (fun c4 => ?_)
  refine RD.iload_n (pc := 7) dX6_post_7 rfl ?_
  refine RD.cS1 (pc := 8) dX6_post_8 mlX6_75 (c_mIsSlot K _ D (nI t)) (leb rfl) ?_
  refine RD.if_eq (pc := 11) 25 dX6_post_11 (by decide) (fun c11 => absurd c11 (bIin (by decide) ht)) (fun c11 => ?_)
  refine RD.aload_n (pc := 14) dX6_post_14 rfl ?_
  refine RD.getR (pc := 15) dX6_post_15 flX6_42 ok14 rfl rfl ?_
  refine RD.iload_n (pc := 18) dX6_post_18 rfl ?_
  refine RD.iL (pc := 19) (n := 8) t (v := nI z) hz dX6_post_19 (ok15 (by decide)) rfl rfl ht (by decide) ?_
  refine RD.bipush (pc := 20) (v := 8) dX6_post_20 (by decide) ?_
  refine RD.icmp_ne (pc := 22) 27 dX6_post_22 (by decide) (fun c22 => ?_) (fun c22 => absurd c22 (fun e => absurd ((nI_eq (a := z) (b := 8) (by omega) (by decide)).mp e) (by omega)))
  refine RD.aload_n (pc := 27) dX6_post_27 rfl ?_
  refine RD.iload_n (pc := 28) dX6_post_28 rfl ?_
  refine RD.iload_n (pc := 29) dX6_post_29 rfl ?_
  refine RD.iload_n (pc := 30) dX6_post_30 rfl ?_
  refine RD.iconst (pc := 31) (v := (-1)) dX6_post_31 (by decide) ?_
  refine RD.cV4v (pc := 32) dX6_post_32 mlX6_83 rfl ok14 rfl (c_comes K _ hf ht D v (-1) hz8 hz hB) (leb rfl) ?_
  refine RD.aload_n (pc := 35) dX6_post_35 rfl ?_
  refine RD.getR (pc := 36) dX6_post_36 flX6_42 ok14 rfl rfl ?_
  refine RD.iload_n (pc := 39) dX6_post_39 rfl ?_
  refine RD.iL (pc := 40) (n := 8) t (v := nI (z + 1)) comF_z dX6_post_40 (ok15 (by decide)) rfl rfl ht (by decide) ?_
  refine RD.ireturn (pc := 41) dX6_post_41 rfl rfl ?_
  exact ⟨rfl, rfl⟩

set_option maxRecDepth 20000 in
set_option maxHeartbeats 1000000 in
theorem m_postFull (K : EK) (d : Nat) (D : DT) {f t z : Nat} (hf : f < 8) (ht : t < 8) (v : Int32) (hz : D (15, 10, 0) t = nI z) (hz8 : z = 8) : CF K mX6_post (d + 2) [rR (14, 0, 0), rI (nI f), rI (nI t), rI v] D (some (rI (-1))) D := by
  refine CF.of [some (rR (14, 0, 0)), some (rI (nI f)), some (rI (nI t)), some (rI v)] (by decide) (leb rfl) rfl ?_
  refine RD.iload_n (pc := 0) dX6_post_0 rfl ?_
  refine RD.cS1 (pc := 1) dX6_post_1 mlX6_75 (c_mIsSlot K _ D (nI f)) (leb rfl) ?_
  refine RD.if_eq (pc := 4) 25 dX6_post_4 (by decide) (fun c4 => absurd c4 (bIin (by decide) hf)) (fun c4 => ?_)
  refine RD.iload_n (pc := 7) dX6_post_7 rfl ?_
  refine RD.cS1 (pc := 8) dX6_post_8 mlX6_75 (c_mIsSlot K _ D (nI t)) (leb rfl) ?_
  refine RD.if_eq (pc := 11) 25 dX6_post_11 (by decide) (fun c11 => absurd c11 (bIin (by decide) ht)) (fun c11 => ?_)
  refine RD.aload_n (pc := 14) dX6_post_14 rfl ?_
  refine RD.getR (pc := 15) dX6_post_15 flX6_42 ok14 rfl rfl ?_
  refine RD.iload_n (pc := 18) dX6_post_18 rfl ?_
  refine RD.iL (pc := 19) (n := 8) t (v := nI z) hz dX6_post_19 (ok15 (by decide)) rfl rfl ht (by decide) ?_
  refine RD.bipush (pc := 20) (v := 8) dX6_post_20 (by decide) ?_
  refine RD.icmp_ne (pc := 22) 27 dX6_post_22 (by decide) (fun c22 => absurd (by rw [hz8]; rfl) c22) (fun c22 => ?_)
  refine RD.iconst (pc := 25) (v := (-1)) dX6_post_25 (by decide) ?_
  refine RD.ireturn (pc := 26) dX6_post_26 rfl rfl ?_
  exact ⟨rfl, rfl⟩

set_option maxRecDepth 20000 in
set_option maxHeartbeats 1000000 in
theorem m_postN (K : EK) (d : Nat) (D : DT) (a b v : Int32) (h : ¬ (inR a 8 = true ∧ inR b 8 = true)) : CF K mX6_post (d + 2) [rR (14, 0, 0), rI a, rI b, rI v] D (some (rI (-1))) D := by
  refine CF.of [some (rR (14, 0, 0)), some (rI a), some (rI b), some (rI v)] (by decide) (leb rfl) rfl ?_
  refine RD.iload_n (pc := 0) dX6_post_0 rfl ?_
  refine RD.cS1 (pc := 1) dX6_post_1 mlX6_75 (c_mIsSlot K _ D a) (leb rfl) ?_
  refine RD.if_eq (pc := 4) 25 dX6_post_4 (by decide) (fun c4 => ?_) (fun c4 => ?_)
  · refine RD.iconst (pc := 25) (v := (-1)) dX6_post_25 (by decide) ?_
    refine RD.ireturn (pc := 26) dX6_post_26 rfl rfl ?_
    exact ⟨rfl, rfl⟩
  · refine RD.iload_n (pc := 7) dX6_post_7 rfl ?_
    refine RD.cS1 (pc := 8) dX6_post_8 mlX6_75 (c_mIsSlot K _ D b) (leb rfl) ?_
    refine RD.if_eq (pc := 11) 25 dX6_post_11 (by decide) (fun c11 => ?_) (fun c11 => ?_)
    · refine RD.iconst (pc := 25) (v := (-1)) dX6_post_25 (by decide) ?_
      refine RD.ireturn (pc := 26) dX6_post_26 rfl rfl ?_
      exact ⟨rfl, rfl⟩
    · exact absurd ⟨bI_1 c4, bI_1 c11⟩ h

set_option maxRecDepth 20000 in
set_option maxHeartbeats 1000000 in
theorem m_cell (K : EK) (d : Nat) (D : DT) {s n : Nat} (hs : s < 8) (hn : n < 128) : CF K mX6_cell (d + 2) [rR (14, 0, 0), rI (nI s), rI (nI n)] D (some (rI (D (15, 0, 0) (128 * s + n)))) D := by
  refine CF.of [some (rR (14, 0, 0)), some (rI (nI s)), some (rI (nI n))] (by decide) (leb rfl) rfl ?_
  refine RD.iload_n (pc := 0) dX6_cell_0 rfl ?_
  refine RD.cS1 (pc := 1) dX6_cell_1 mlX6_75 (c_mIsSlot K _ D (nI s)) (leb rfl) ?_
  refine RD.if_eq (pc := 4) 29 dX6_cell_4 (by decide) (fun c4 => absurd c4 (bIin (by decide) hs)) (fun c4 => ?_)
  refine RD.iload_n (pc := 7) dX6_cell_7 rfl ?_
  refine RD.cS1 (pc := 8) dX6_cell_8 mlX6_87 (c_mIsCell K _ D (nI n)) (leb rfl) ?_
  refine RD.if_eq (pc := 11) 29 dX6_cell_11 (by decide) (fun c11 => absurd c11 (bIin (by decide) hn)) (fun c11 => ?_)
  refine RD.aload_n (pc := 14) dX6_cell_14 rfl ?_
  refine RD.getR (pc := 15) dX6_cell_15 flX6_9 ok14 rfl rfl ?_
  refine RD.sipush (pc := 18) (v := 128) dX6_cell_18 (by decide) ?_
  refine RD.iload_n (pc := 21) dX6_cell_21 rfl ?_
  refine RD.imul (pc := 22) dX6_cell_22 ?_
  refine RD.eqI (pk_mul 128 s) ?_
  refine RD.iload_n (pc := 23) dX6_cell_23 rfl ?_
  refine RD.iadd (pc := 24) dX6_cell_24 ?_
  refine RD.eqI (nI_add (128 * s) n) ?_
  refine RD.iL (pc := 25) (n := 1024) ((128 * s) + n) (v := D (15, 0, 0) ((128 * s) + n)) rfl dX6_cell_25 (ok15 (by decide)) rfl rfl (by omega) (by decide) ?_
  refine RD.goto (pc := 26) 30 dX6_cell_26 (by decide) ?_
  refine RD.ireturn (pc := 30) dX6_cell_30 rfl rfl ?_
  exact ⟨rfl, rfl⟩

set_option maxRecDepth 20000 in
set_option maxHeartbeats 1000000 in
theorem m_cellN (K : EK) (d : Nat) (D : DT) (a b : Int32) (h : ¬ (inR a 8 = true ∧ inR b 128 = true)) : CF K mX6_cell (d + 2) [rR (14, 0, 0), rI a, rI b] D (some (rI 0)) D := by
  refine CF.of [some (rR (14, 0, 0)), some (rI a), some (rI b)] (by decide) (leb rfl) rfl ?_
  refine RD.iload_n (pc := 0) dX6_cell_0 rfl ?_
  refine RD.cS1 (pc := 1) dX6_cell_1 mlX6_75 (c_mIsSlot K _ D a) (leb rfl) ?_
  refine RD.if_eq (pc := 4) 29 dX6_cell_4 (by decide) (fun c4 => ?_) (fun c4 => ?_)
  · refine RD.iconst (pc := 29) (v := 0) dX6_cell_29 (by decide) ?_
    refine RD.ireturn (pc := 30) dX6_cell_30 rfl rfl ?_
    exact ⟨rfl, rfl⟩
  · refine RD.iload_n (pc := 7) dX6_cell_7 rfl ?_
    refine RD.cS1 (pc := 8) dX6_cell_8 mlX6_87 (c_mIsCell K _ D b) (leb rfl) ?_
    refine RD.if_eq (pc := 11) 29 dX6_cell_11 (by decide) (fun c11 => ?_) (fun c11 => ?_)
    · refine RD.iconst (pc := 29) (v := 0) dX6_cell_29 (by decide) ?_
      refine RD.ireturn (pc := 30) dX6_cell_30 rfl rfl ?_
      exact ⟨rfl, rfl⟩
    · exact absurd ⟨bI_1 c4, bI_1 c11⟩ h

set_option maxRecDepth 20000 in
set_option maxHeartbeats 1000000 in
theorem m_isOut (K : EK) (d : Nat) (D : DT) {s : Nat} (hs : s < 8) (x : Int32) : CF K mX6_isOutput (d + 2) [rR (14, 0, 0), rI (nI s), rI x] D (some (rI (bI (inB x 0 (D (15, 14, 0) s - 1))))) D := by
  refine CF.of [some (rR (14, 0, 0)), some (rI (nI s)), some (rI x)] (by decide) (leb rfl) rfl ?_
  refine RD.iload_n (pc := 0) dX6_isOutput_0 rfl ?_
  refine RD.cS1 (pc := 1) dX6_isOutput_1 mlX6_75 (c_mIsSlot K _ D (nI s)) (leb rfl) ?_
  refine RD.if_eq (pc := 4) 27 dX6_isOutput_4 (by decide) (fun c4 => absurd c4 (bIin (by decide) hs)) (fun c4 => ?_)
  refine RD.iload_n (pc := 7) dX6_isOutput_7 rfl ?_
  refine RD.iconst (pc := 8) (v := 0) dX6_isOutput_8 (by decide) ?_
  refine RD.aload_n (pc := 9) dX6_isOutput_9 rfl ?_
  refine RD.getR (pc := 10) dX6_isOutput_10 flX6_54 ok14 rfl rfl ?_
  refine RD.iload_n (pc := 13) dX6_isOutput_13 rfl ?_
  refine RD.iL (pc := 14) (n := 8) s (v := D (15, 14, 0) s) rfl dX6_isOutput_14 (ok15 (by decide)) rfl rfl hs (by decide) ?_
  refine RD.iconst (pc := 15) (v := 1) dX6_isOutput_15 (by decide) ?_
  refine RD.isub (pc := 16) dX6_isOutput_16 ?_
  refine RD.cS3 (pc := 17) dX6_isOutput_17 mlX6_63 (c_mIsInG K _ D x 0 ((D (15, 14, 0) s) - 1)) (leb rfl) ?_
  refine RD.if_eq (pc := 20) 27 dX6_isOutput_20 (by decide) (fun c20 => ?_) (fun c20 => ?_)
  · refine RD.iconst (pc := 27) (v := 0) dX6_isOutput_27 (by decide) ?_
    refine RD.ireturn (pc := 28) dX6_isOutput_28 rfl rfl ?_
    exact ⟨by rw [bI_0 c20]; rfl, rfl⟩
  · refine RD.iconst (pc := 23) (v := 1) dX6_isOutput_23 (by decide) ?_
    refine RD.goto (pc := 24) 28 dX6_isOutput_24 (by decide) ?_
    refine RD.ireturn (pc := 28) dX6_isOutput_28 rfl rfl ?_
    exact ⟨by rw [bI_1 c20]; rfl, rfl⟩

set_option maxRecDepth 20000 in
set_option maxHeartbeats 1000000 in
theorem m_isOutN (K : EK) (d : Nat) (D : DT) (a x : Int32) (h : inR a 8 = false) : CF K mX6_isOutput (d + 2) [rR (14, 0, 0), rI a, rI x] D (some (rI 0)) D := by
  refine CF.of [some (rR (14, 0, 0)), some (rI a), some (rI x)] (by decide) (leb rfl) rfl ?_
  refine RD.iload_n (pc := 0) dX6_isOutput_0 rfl ?_
  refine RD.cS1 (pc := 1) dX6_isOutput_1 mlX6_75 (c_mIsSlot K _ D a) (leb rfl) ?_
  refine RD.if_eq (pc := 4) 27 dX6_isOutput_4 (by decide) (fun c4 => ?_) (fun c4 => absurd (bIout h) c4)
  refine RD.iconst (pc := 27) (v := 0) dX6_isOutput_27 (by decide) ?_
  refine RD.ireturn (pc := 28) dX6_isOutput_28 rfl rfl ?_
  exact ⟨rfl, rfl⟩

set_option maxRecDepth 20000 in
set_option maxHeartbeats 1000000 in
theorem m_output (K : EK) (d : Nat) (D : DT) {s e : Nat} (hs : s < 8) (he : e < 64) (h : inB (nI e) 0 (D (15, 14, 0) s - 1) = true) : CF K mX6_output (d + 3) [rR (14, 0, 0), rI (nI s), rI (nI e)] D (some (rI (D (15, 15, 0) (64 * s + e)))) D := by
  refine CF.of [some (rR (14, 0, 0)), some (rI (nI s)), some (rI (nI e))] (by decide) (leb rfl) rfl ?_
  refine RD.aload_n (pc := 0) dX6_output_0 rfl ?_
  refine RD.iload_n (pc := 1) dX6_output_1 rfl ?_
  refine RD.iload_n (pc := 2) dX6_output_2 rfl ?_
  refine RD.cV2 (pc := 3) dX6_output_3 mlX6_164 rfl ok14 rfl (m_isOut K _ D hs (nI e)) (leb rfl) ?_
  refine RD.if_eq (pc := 6) 23 dX6_output_6 (by decide) (fun c6 => absurd c6 (by rw [h]; decide)) (fun c6 => ?_)
  refine RD.aload_n (pc := 9) dX6_output_9 rfl ?_
  refine RD.getR (pc := 10) dX6_output_10 flX6_57 ok14 rfl rfl ?_
  refine RD.bipush (pc := 13) (v := 64) dX6_output_13 (by decide) ?_
  refine RD.iload_n (pc := 15) dX6_output_15 rfl ?_
  refine RD.imul (pc := 16) dX6_output_16 ?_
  refine RD.eqI (pk_mul 64 s) ?_
  refine RD.iload_n (pc := 17) dX6_output_17 rfl ?_
  refine RD.iadd (pc := 18) dX6_output_18 ?_
  refine RD.eqI (nI_add (64 * s) e) ?_
  refine RD.iL (pc := 19) (n := 512) ((64 * s) + e) (v := D (15, 15, 0) ((64 * s) + e)) rfl dX6_output_19 (ok15 (by decide)) rfl rfl (by omega) (by decide) ?_
  refine RD.goto (pc := 20) 24 dX6_output_20 (by decide) ?_
  refine RD.ireturn (pc := 24) dX6_output_24 rfl rfl ?_
  exact ⟨rfl, rfl⟩

set_option maxRecDepth 20000 in
set_option maxHeartbeats 1000000 in
theorem m_outputF (K : EK) (d : Nat) (D : DT) {s : Nat} (hs : s < 8) (x : Int32) (h : inB x 0 (D (15, 14, 0) s - 1) = false) : CF K mX6_output (d + 3) [rR (14, 0, 0), rI (nI s), rI x] D (some (rI 0)) D := by
  refine CF.of [some (rR (14, 0, 0)), some (rI (nI s)), some (rI x)] (by decide) (leb rfl) rfl ?_
  refine RD.aload_n (pc := 0) dX6_output_0 rfl ?_
  refine RD.iload_n (pc := 1) dX6_output_1 rfl ?_
  refine RD.iload_n (pc := 2) dX6_output_2 rfl ?_
  refine RD.cV2 (pc := 3) dX6_output_3 mlX6_164 rfl ok14 rfl (m_isOut K _ D hs x) (leb rfl) ?_
  refine RD.if_eq (pc := 6) 23 dX6_output_6 (by decide) (fun c6 => ?_) (fun c6 => absurd (by rw [h]; rfl) c6)
  refine RD.iconst (pc := 23) (v := 0) dX6_output_23 (by decide) ?_
  refine RD.ireturn (pc := 24) dX6_output_24 rfl rfl ?_
  exact ⟨rfl, rfl⟩

set_option maxRecDepth 20000 in
set_option maxHeartbeats 1000000 in
theorem m_outputN (K : EK) (d : Nat) (D : DT) (a x : Int32) (h : inR a 8 = false) : CF K mX6_output (d + 3) [rR (14, 0, 0), rI a, rI x] D (some (rI 0)) D := by
  refine CF.of [some (rR (14, 0, 0)), some (rI a), some (rI x)] (by decide) (leb rfl) rfl ?_
  refine RD.aload_n (pc := 0) dX6_output_0 rfl ?_
  refine RD.iload_n (pc := 1) dX6_output_1 rfl ?_
  refine RD.iload_n (pc := 2) dX6_output_2 rfl ?_
  refine RD.cV2 (pc := 3) dX6_output_3 mlX6_164 rfl ok14 rfl (m_isOutN K _ D a x h) (leb rfl) ?_
  refine RD.if_eq (pc := 6) 23 dX6_output_6 (by decide) (fun c6 => ?_) (fun c6 => absurd rfl c6)
  refine RD.iconst (pc := 23) (v := 0) dX6_output_23 (by decide) ?_
  refine RD.ireturn (pc := 24) dX6_output_24 rfl rfl ?_
  exact ⟨rfl, rfl⟩

set_option maxRecDepth 20000 in
set_option maxHeartbeats 1000000 in
theorem m_outputTags (K : EK) (d : Nat) (D : DT) {s e : Nat} (hs : s < 8) (he : e < 64) (h : inB (nI e) 0 (D (15, 14, 0) s - 1) = true) : CF K mX6_outputTags (d + 3) [rR (14, 0, 0), rI (nI s), rI (nI e)] D (some (rI (D (15, 16, 0) (64 * s + e)))) D := by
  refine CF.of [some (rR (14, 0, 0)), some (rI (nI s)), some (rI (nI e))] (by decide) (leb rfl) rfl ?_
  refine RD.aload_n (pc := 0) dX6_outputTags_0 rfl ?_
  refine RD.iload_n (pc := 1) dX6_outputTags_1 rfl ?_
  refine RD.iload_n (pc := 2) dX6_outputTags_2 rfl ?_
  refine RD.cV2 (pc := 3) dX6_outputTags_3 mlX6_164 rfl ok14 rfl (m_isOut K _ D hs (nI e)) (leb rfl) ?_
  refine RD.if_eq (pc := 6) 23 dX6_outputTags_6 (by decide) (fun c6 => absurd c6 (by rw [h]; decide)) (fun c6 => ?_)
  refine RD.aload_n (pc := 9) dX6_outputTags_9 rfl ?_
  refine RD.getR (pc := 10) dX6_outputTags_10 flX6_60 ok14 rfl rfl ?_
  refine RD.bipush (pc := 13) (v := 64) dX6_outputTags_13 (by decide) ?_
  refine RD.iload_n (pc := 15) dX6_outputTags_15 rfl ?_
  refine RD.imul (pc := 16) dX6_outputTags_16 ?_
  refine RD.eqI (pk_mul 64 s) ?_
  refine RD.iload_n (pc := 17) dX6_outputTags_17 rfl ?_
  refine RD.iadd (pc := 18) dX6_outputTags_18 ?_
  refine RD.eqI (nI_add (64 * s) e) ?_
  refine RD.iL (pc := 19) (n := 512) ((64 * s) + e) (v := D (15, 16, 0) ((64 * s) + e)) rfl dX6_outputTags_19 (ok15 (by decide)) rfl rfl (by omega) (by decide) ?_
  refine RD.goto (pc := 20) 24 dX6_outputTags_20 (by decide) ?_
  refine RD.ireturn (pc := 24) dX6_outputTags_24 rfl rfl ?_
  exact ⟨rfl, rfl⟩

set_option maxRecDepth 20000 in
set_option maxHeartbeats 1000000 in
theorem m_outputTagsF (K : EK) (d : Nat) (D : DT) {s : Nat} (hs : s < 8) (x : Int32) (h : inB x 0 (D (15, 14, 0) s - 1) = false) : CF K mX6_outputTags (d + 3) [rR (14, 0, 0), rI (nI s), rI x] D (some (rI (-1))) D := by
  refine CF.of [some (rR (14, 0, 0)), some (rI (nI s)), some (rI x)] (by decide) (leb rfl) rfl ?_
  refine RD.aload_n (pc := 0) dX6_outputTags_0 rfl ?_
  refine RD.iload_n (pc := 1) dX6_outputTags_1 rfl ?_
  refine RD.iload_n (pc := 2) dX6_outputTags_2 rfl ?_
  refine RD.cV2 (pc := 3) dX6_outputTags_3 mlX6_164 rfl ok14 rfl (m_isOut K _ D hs x) (leb rfl) ?_
  refine RD.if_eq (pc := 6) 23 dX6_outputTags_6 (by decide) (fun c6 => ?_) (fun c6 => absurd (by rw [h]; rfl) c6)
  refine RD.iconst (pc := 23) (v := (-1)) dX6_outputTags_23 (by decide) ?_
  refine RD.ireturn (pc := 24) dX6_outputTags_24 rfl rfl ?_
  exact ⟨rfl, rfl⟩

set_option maxRecDepth 20000 in
set_option maxHeartbeats 1000000 in
theorem m_outputTagsN (K : EK) (d : Nat) (D : DT) (a x : Int32) (h : inR a 8 = false) : CF K mX6_outputTags (d + 3) [rR (14, 0, 0), rI a, rI x] D (some (rI (-1))) D := by
  refine CF.of [some (rR (14, 0, 0)), some (rI a), some (rI x)] (by decide) (leb rfl) rfl ?_
  refine RD.aload_n (pc := 0) dX6_outputTags_0 rfl ?_
  refine RD.iload_n (pc := 1) dX6_outputTags_1 rfl ?_
  refine RD.iload_n (pc := 2) dX6_outputTags_2 rfl ?_
  refine RD.cV2 (pc := 3) dX6_outputTags_3 mlX6_164 rfl ok14 rfl (m_isOutN K _ D a x h) (leb rfl) ?_
  refine RD.if_eq (pc := 6) 23 dX6_outputTags_6 (by decide) (fun c6 => ?_) (fun c6 => absurd rfl c6)
  refine RD.iconst (pc := 23) (v := (-1)) dX6_outputTags_23 (by decide) ?_
  refine RD.ireturn (pc := 24) dX6_outputTags_24 rfl rfl ?_
  exact ⟨rfl, rfl⟩

set_option maxRecDepth 20000 in
set_option maxHeartbeats 1000000 in
theorem m_mayFlow (K : EK) (d : Nat) (D : DT) {f t : Nat} (hf : f < 8) (ht : t < 8) : CF K mX6_mayFlow (d + 2) [rR (14, 0, 0), rI (nI f), rI (nI t)] D (some (rI (bI (subM D f t)))) D := by
  refine CF.of [some (rR (14, 0, 0)), some (rI (nI f)), some (rI (nI t))] (by decide) (leb rfl) rfl ?_
  refine RD.iload_n (pc := 0) dX6_mayFlow_0 rfl ?_
  refine RD.cS1 (pc := 1) dX6_mayFlow_1 mlX6_75 (c_mIsSlot K _ D (nI f)) (leb rfl) ?_
  refine RD.if_eq (pc := 4) 27 dX6_mayFlow_4 (by decide) (fun c4 => absurd c4 (bIin (by decide) hf)) (fun c4 => ?_)
  refine RD.iload_n (pc := 7) dX6_mayFlow_7 rfl ?_
  refine RD.cS1 (pc := 8) dX6_mayFlow_8 mlX6_75 (c_mIsSlot K _ D (nI t)) (leb rfl) ?_
  refine RD.if_eq (pc := 11) 27 dX6_mayFlow_11 (by decide) (fun c11 => absurd c11 (bIin (by decide) ht)) (fun c11 => ?_)
  refine RD.aload_n (pc := 14) dX6_mayFlow_14 rfl ?_
  refine RD.iload_n (pc := 15) dX6_mayFlow_15 rfl ?_
  refine RD.iload_n (pc := 16) dX6_mayFlow_16 rfl ?_
  refine RD.cV2 (pc := 17) dX6_mayFlow_17 mlX6_79 rfl ok14 rfl (c_isInLabel K _ (l := f) (m := t) (by omega) (by omega) D) (leb rfl) ?_
  refine RD.if_eq (pc := 20) 27 dX6_mayFlow_20 (by decide) (fun c20 => ?_) (fun c20 => ?_)
  · refine RD.iconst (pc := 27) (v := 0) dX6_mayFlow_27 (by decide) ?_
    refine RD.ireturn (pc := 28) dX6_mayFlow_28 rfl rfl ?_
    exact ⟨by rw [bI_0 c20]; rfl, rfl⟩
  · refine RD.iconst (pc := 23) (v := 1) dX6_mayFlow_23 (by decide) ?_
    refine RD.goto (pc := 24) 28 dX6_mayFlow_24 (by decide) ?_
    refine RD.ireturn (pc := 28) dX6_mayFlow_28 rfl rfl ?_
    exact ⟨by rw [bI_1 c20]; rfl, rfl⟩

set_option maxRecDepth 20000 in
set_option maxHeartbeats 1000000 in
theorem m_mayFlowN (K : EK) (d : Nat) (D : DT) (a b : Int32) (h : ¬ (inR a 8 = true ∧ inR b 8 = true)) : CF K mX6_mayFlow (d + 2) [rR (14, 0, 0), rI a, rI b] D (some (rI 0)) D := by
  refine CF.of [some (rR (14, 0, 0)), some (rI a), some (rI b)] (by decide) (leb rfl) rfl ?_
  refine RD.iload_n (pc := 0) dX6_mayFlow_0 rfl ?_
  refine RD.cS1 (pc := 1) dX6_mayFlow_1 mlX6_75 (c_mIsSlot K _ D a) (leb rfl) ?_
  refine RD.if_eq (pc := 4) 27 dX6_mayFlow_4 (by decide) (fun c4 => ?_) (fun c4 => ?_)
  · refine RD.iconst (pc := 27) (v := 0) dX6_mayFlow_27 (by decide) ?_
    refine RD.ireturn (pc := 28) dX6_mayFlow_28 rfl rfl ?_
    exact ⟨rfl, rfl⟩
  · refine RD.iload_n (pc := 7) dX6_mayFlow_7 rfl ?_
    refine RD.cS1 (pc := 8) dX6_mayFlow_8 mlX6_75 (c_mIsSlot K _ D b) (leb rfl) ?_
    refine RD.if_eq (pc := 11) 27 dX6_mayFlow_11 (by decide) (fun c11 => ?_) (fun c11 => ?_)
    · refine RD.iconst (pc := 27) (v := 0) dX6_mayFlow_27 (by decide) ?_
      refine RD.ireturn (pc := 28) dX6_mayFlow_28 rfl rfl ?_
      exact ⟨rfl, rfl⟩
    · exact absurd ⟨bI_1 c4, bI_1 c11⟩ h


def mnth (D : DT) (l : Nat) : Nat → Nat → Int32 → Int32 → Int32
  | 0, _, _, _ => -1
  | n + 1, k, c, x => if lbB D l k = true then (if c = x then nI k else mnth D l n (k + 1) (c + 1) x) else mnth D l n (k + 1) c x

set_option maxRecDepth 20000 in
set_option maxHeartbeats 2000000 in
theorem l_mlabel (K : EK) (d : Nat) {s : Nat} (hs : s < 8) (D : DT) (x : Int32) : ∀ n (k : Nat) (c : Int32), k + n = 256 → RD K mX6_label (d + 2) 5 [some (rR (14, 0, 0)), some (rI (nI s)), some (rI x), some (rI c), some (rI (nI k))] [] D (fun r0 D0 => r0 = some (rI (mnth D s n k c x)) ∧ D0 = D) := by
  intro n
  induction n with
  | zero =>
    intro k c hk
    refine RD.iload (pc := 5) dX6_label_5 rfl ?_
    refine RD.sipush (pc := 7) (v := 256) dX6_label_7 (by decide) ?_
    refine RD.icmp_ge (pc := 10) 56 dX6_label_10 (by decide) (fun _ => ?_) (fun c10 => absurd (nI_le (a := 256) (b := k) (by omega) (by omega)) c10)
    refine RD.iconst (pc := 56) (v := (-1)) dX6_label_56 (by decide) ?_
    refine RD.ireturn (pc := 57) dX6_label_57 rfl rfl ?_
    exact ⟨rfl, rfl⟩
  | succ n ih =>
    intro k c hk
    refine RD.iload (pc := 5) dX6_label_5 rfl ?_
    refine RD.sipush (pc := 7) (v := 256) dX6_label_7 (by decide) ?_
    refine RD.icmp_ge (pc := 10) 56 dX6_label_10 (by decide) (fun c10 => absurd c10 (nI_ge (a := k) (b := 256) (by omega) (by decide))) (fun c10 => ?_)
    refine RD.iload_n (pc := 13) dX6_label_13 rfl ?_
    refine RD.cS1 (pc := 14) dX6_label_14 mlX6_75 (c_mIsSlot K _ D (nI s)) (leb rfl) ?_
    refine RD.if_eq (pc := 17) 56 dX6_label_17 (by decide) (fun c17 => absurd c17 (bIin (by decide) hs)) (fun c17 => ?_)
    refine RD.aload_n (pc := 20) dX6_label_20 rfl ?_
    refine RD.getR (pc := 21) dX6_label_21 flX6_29 ok14 rfl rfl ?_
    refine RD.sipush (pc := 24) (v := 256) dX6_label_24 (by decide) ?_
    refine RD.iload_n (pc := 27) dX6_label_27 rfl ?_
    refine RD.imul (pc := 28) dX6_label_28 ?_
    refine RD.eqI (pk_mul 256 s) ?_
    refine RD.iload (pc := 29) dX6_label_29 rfl ?_
    refine RD.iadd (pc := 31) dX6_label_31 ?_
    refine RD.eqI (nI_add (256 * s) k) ?_
    refine RD.zL (pc := 32) (n := 35072) ((256 * s) + k) (v := D (15, 6, 0) ((256 * s) + k)) rfl dX6_label_32 (ok15 (by decide)) rfl rfl (by omega) (by decide) ?_
    refine RD.if_ne (pc := 33) 39 dX6_label_33 (by decide) (fun c33 => ?_) (fun c33 => ?_)
    · refine RD.iload_n (pc := 39) dX6_label_39 rfl ?_
      refine RD.iload_n (pc := 40) dX6_label_40 rfl ?_
      refine RD.icmp_ne (pc := 41) 47 dX6_label_41 (by decide) (fun c41 => ?_) (fun c41 => ?_)
      · refine RD.iinc (pc := 47) (ls' := [some (rR (14, 0, 0)), some (rI (nI s)), some (rI x), some (rI (c + 1)), some (rI (nI k))]) dX6_label_47 rfl rfl (by decide) rfl ?_
        rw [show mnth D s (n + 1) k c x = mnth D s n (k + 1) (c + 1) x by simp [mnth, lbB, c33, c41]]
        refine RD.iinc (pc := 50) (ls' := [some (rR (14, 0, 0)), some (rI (nI s)), some (rI x), some (rI (c + 1)), some (rI (nI (k + 1)))]) dX6_label_50 rfl (nI_1 k) (by decide) rfl ?_
        refine RD.goto (pc := 53) 5 dX6_label_53 (by decide) ?_
        exact ih (k + 1) (c + 1) (by omega)
      · refine RD.iload (pc := 44) dX6_label_44 rfl ?_
        refine RD.ireturn (pc := 46) dX6_label_46 rfl rfl ?_
        exact ⟨by simp [mnth, lbB, c33, c41], rfl⟩
    · refine RD.goto (pc := 36) 50 dX6_label_36 (by decide) ?_
      rw [show mnth D s (n + 1) k c x = mnth D s n (k + 1) c x by simp [mnth, lbB, c33]]
      refine RD.iinc (pc := 50) (ls' := [some (rR (14, 0, 0)), some (rI (nI s)), some (rI x), some (rI c), some (rI (nI (k + 1)))]) dX6_label_50 rfl (nI_1 k) (by decide) rfl ?_
      refine RD.goto (pc := 53) 5 dX6_label_53 (by decide) ?_
      exact ih (k + 1) c (by omega)

set_option maxRecDepth 20000 in
set_option maxHeartbeats 1000000 in
theorem m_label (K : EK) (d : Nat) {s : Nat} (hs : s < 8) (D : DT) (x : Int32) : CF K mX6_label (d + 2) [rR (14, 0, 0), rI (nI s), rI x] D (some (rI (mnth D s 256 0 0 x))) D := by
  refine CF.of [some (rR (14, 0, 0)), some (rI (nI s)), some (rI x), none, none] (by decide) (leb rfl) rfl ?_
  refine RD.iconst (pc := 0) (v := 0) dX6_label_0 (by decide) ?_
  refine RD.istore_n (pc := 1) (ls' := [some (rR (14, 0, 0)), some (rI (nI s)), some (rI x), some (rI 0), none]) dX6_label_1 (by decide) rfl ?_
  refine RD.iconst (pc := 2) (v := 0) dX6_label_2 (by decide) ?_
  refine RD.istore (pc := 3) (ls' := [some (rR (14, 0, 0)), some (rI (nI s)), some (rI x), some (rI 0), some (rI 0)]) dX6_label_3 (by decide) rfl ?_
  exact l_mlabel K d hs D x 256 0 0 rfl

set_option maxRecDepth 20000 in
set_option maxHeartbeats 1000000 in
theorem m_labelN (K : EK) (d : Nat) (D : DT) (a x : Int32) (h : inR a 8 = false) : CF K mX6_label (d + 2) [rR (14, 0, 0), rI a, rI x] D (some (rI (-1))) D := by
  refine CF.of [some (rR (14, 0, 0)), some (rI a), some (rI x), none, none] (by decide) (leb rfl) rfl ?_
  refine RD.iconst (pc := 0) (v := 0) dX6_label_0 (by decide) ?_
  refine RD.istore_n (pc := 1) (ls' := [some (rR (14, 0, 0)), some (rI a), some (rI x), some (rI 0), none]) dX6_label_1 (by decide) rfl ?_
  refine RD.iconst (pc := 2) (v := 0) dX6_label_2 (by decide) ?_
  refine RD.istore (pc := 3) (ls' := [some (rR (14, 0, 0)), some (rI a), some (rI x), some (rI 0), some (rI 0)]) dX6_label_3 (by decide) rfl ?_
  refine RD.iload (pc := 5) dX6_label_5 rfl ?_
  refine RD.sipush (pc := 7) (v := 256) dX6_label_7 (by decide) ?_
  refine RD.icmp_ge (pc := 10) 56 dX6_label_10 (by decide) (fun c10 => absurd c10 (by decide)) (fun c10 => ?_)
  refine RD.iload_n (pc := 13) dX6_label_13 rfl ?_
  refine RD.cS1 (pc := 14) dX6_label_14 mlX6_75 (c_mIsSlot K _ D a) (leb rfl) ?_
  refine RD.if_eq (pc := 17) 56 dX6_label_17 (by decide) (fun c17 => ?_) (fun c17 => absurd (bIout h) c17)
  refine RD.iconst (pc := 56) (v := (-1)) dX6_label_56 (by decide) ?_
  refine RD.ireturn (pc := 57) dX6_label_57 rfl rfl ?_
  exact ⟨rfl, rfl⟩

set_option maxRecDepth 20000 in
set_option maxHeartbeats 1000000 in
theorem m_slot0 (K : EK) (d : Nat) (D : DT) {s : Nat} (hs : s < 8) : CF K mX6_slot (d + 2) [rR (14, 0, 0), rI (nI s), rI 0] D (some (rI (D (15, 3, 0) s))) D := by
  refine CF.of [some (rR (14, 0, 0)), some (rI (nI s)), some (rI 0), none, none] (by decide) (leb rfl) rfl ?_
  refine RD.iload_n (pc := 0) dX6_slot_0 rfl ?_
  refine RD.cS1 (pc := 1) dX6_slot_1 mlX6_75 (c_mIsSlot K _ D (nI s)) (leb rfl) ?_
  refine RD.if_ne (pc := 4) 9 dX6_slot_4 (by decide) (fun c4 => ?_) (fun c4 => absurd c4 (bIin (by decide) hs))
  refine RD.iload_n (pc := 9) dX6_slot_9 rfl ?_
  refine RD.tableIn (pc := 10) 68 dX6_slot_10 (by decide) (by decide) rfl (by decide) ?_
  refine RD.aload_n (pc := 68) dX6_slot_68 rfl ?_
  refine RD.getR (pc := 69) dX6_slot_69 flX6_19 ok14 rfl rfl ?_
  refine RD.iload_n (pc := 72) dX6_slot_72 rfl ?_
  refine RD.iL (pc := 73) (n := 8) s (v := D (15, 3, 0) s) rfl dX6_slot_73 (ok15 (by decide)) rfl rfl hs (by decide) ?_
  refine RD.ireturn (pc := 74) dX6_slot_74 rfl rfl ?_
  exact ⟨rfl, rfl⟩

set_option maxRecDepth 20000 in
set_option maxHeartbeats 1000000 in
theorem m_slot1 (K : EK) (d : Nat) (D : DT) {s : Nat} (hs : s < 8) : CF K mX6_slot (d + 2) [rR (14, 0, 0), rI (nI s), rI 1] D (some (rI (D (15, 4, 0) s))) D := by
  refine CF.of [some (rR (14, 0, 0)), some (rI (nI s)), some (rI 1), none, none] (by decide) (leb rfl) rfl ?_
  refine RD.iload_n (pc := 0) dX6_slot_0 rfl ?_
  refine RD.cS1 (pc := 1) dX6_slot_1 mlX6_75 (c_mIsSlot K _ D (nI s)) (leb rfl) ?_
  refine RD.if_ne (pc := 4) 9 dX6_slot_4 (by decide) (fun c4 => ?_) (fun c4 => absurd c4 (bIin (by decide) hs))
  refine RD.iload_n (pc := 9) dX6_slot_9 rfl ?_
  refine RD.tableIn (pc := 10) 75 dX6_slot_10 (by decide) (by decide) rfl (by decide) ?_
  refine RD.aload_n (pc := 75) dX6_slot_75 rfl ?_
  refine RD.getR (pc := 76) dX6_slot_76 flX6_22 ok14 rfl rfl ?_
  refine RD.iload_n (pc := 79) dX6_slot_79 rfl ?_
  refine RD.iL (pc := 80) (n := 8) s (v := D (15, 4, 0) s) rfl dX6_slot_80 (ok15 (by decide)) rfl rfl hs (by decide) ?_
  refine RD.ireturn (pc := 81) dX6_slot_81 rfl rfl ?_
  exact ⟨rfl, rfl⟩

set_option maxRecDepth 20000 in
set_option maxHeartbeats 1000000 in
theorem m_slot2 (K : EK) (d : Nat) (D : DT) {s : Nat} (hs : s < 8) : CF K mX6_slot (d + 2) [rR (14, 0, 0), rI (nI s), rI 2] D (some (rI (D (15, 1, 0) s))) D := by
  refine CF.of [some (rR (14, 0, 0)), some (rI (nI s)), some (rI 2), none, none] (by decide) (leb rfl) rfl ?_
  refine RD.iload_n (pc := 0) dX6_slot_0 rfl ?_
  refine RD.cS1 (pc := 1) dX6_slot_1 mlX6_75 (c_mIsSlot K _ D (nI s)) (leb rfl) ?_
  refine RD.if_ne (pc := 4) 9 dX6_slot_4 (by decide) (fun c4 => ?_) (fun c4 => absurd c4 (bIin (by decide) hs))
  refine RD.iload_n (pc := 9) dX6_slot_9 rfl ?_
  refine RD.tableIn (pc := 10) 82 dX6_slot_10 (by decide) (by decide) rfl (by decide) ?_
  refine RD.aload_n (pc := 82) dX6_slot_82 rfl ?_
  refine RD.getR (pc := 83) dX6_slot_83 flX6_13 ok14 rfl rfl ?_
  refine RD.iload_n (pc := 86) dX6_slot_86 rfl ?_
  refine RD.iL (pc := 87) (n := 8) s (v := D (15, 1, 0) s) rfl dX6_slot_87 (ok15 (by decide)) rfl rfl hs (by decide) ?_
  refine RD.ireturn (pc := 88) dX6_slot_88 rfl rfl ?_
  exact ⟨rfl, rfl⟩

set_option maxRecDepth 20000 in
set_option maxHeartbeats 1000000 in
theorem m_slot3 (K : EK) (d : Nat) (D : DT) {s : Nat} (hs : s < 8) : CF K mX6_slot (d + 2) [rR (14, 0, 0), rI (nI s), rI 3] D (some (rI (D (15, 2, 0) s))) D := by
  refine CF.of [some (rR (14, 0, 0)), some (rI (nI s)), some (rI 3), none, none] (by decide) (leb rfl) rfl ?_
  refine RD.iload_n (pc := 0) dX6_slot_0 rfl ?_
  refine RD.cS1 (pc := 1) dX6_slot_1 mlX6_75 (c_mIsSlot K _ D (nI s)) (leb rfl) ?_
  refine RD.if_ne (pc := 4) 9 dX6_slot_4 (by decide) (fun c4 => ?_) (fun c4 => absurd c4 (bIin (by decide) hs))
  refine RD.iload_n (pc := 9) dX6_slot_9 rfl ?_
  refine RD.tableIn (pc := 10) 89 dX6_slot_10 (by decide) (by decide) rfl (by decide) ?_
  refine RD.aload_n (pc := 89) dX6_slot_89 rfl ?_
  refine RD.getR (pc := 90) dX6_slot_90 flX6_16 ok14 rfl rfl ?_
  refine RD.iload_n (pc := 93) dX6_slot_93 rfl ?_
  refine RD.iL (pc := 94) (n := 8) s (v := D (15, 2, 0) s) rfl dX6_slot_94 (ok15 (by decide)) rfl rfl hs (by decide) ?_
  refine RD.ireturn (pc := 95) dX6_slot_95 rfl rfl ?_
  exact ⟨rfl, rfl⟩

set_option maxRecDepth 20000 in
set_option maxHeartbeats 1000000 in
theorem m_slot4 (K : EK) (d : Nat) (D : DT) {s : Nat} (hs : s < 8) : CF K mX6_slot (d + 2) [rR (14, 0, 0), rI (nI s), rI 4] D (some (rI (nI (mnF D s)))) D := by
  refine CF.of [some (rR (14, 0, 0)), some (rI (nI s)), some (rI 4), none, none] (by decide) (leb rfl) rfl ?_
  refine RD.iload_n (pc := 0) dX6_slot_0 rfl ?_
  refine RD.cS1 (pc := 1) dX6_slot_1 mlX6_75 (c_mIsSlot K _ D (nI s)) (leb rfl) ?_
  refine RD.if_ne (pc := 4) 9 dX6_slot_4 (by decide) (fun c4 => ?_) (fun c4 => absurd c4 (bIin (by decide) hs))
  refine RD.iload_n (pc := 9) dX6_slot_9 rfl ?_
  refine RD.tableIn (pc := 10) 96 dX6_slot_10 (by decide) (by decide) rfl (by decide) ?_
  refine RD.aload_n (pc := 96) dX6_slot_96 rfl ?_
  refine RD.iload_n (pc := 97) dX6_slot_97 rfl ?_
  refine RD.cV1 (pc := 98) dX6_slot_98 mlX6_136 rfl ok14 rfl (c_many K _ (l := s) (by omega) D) (leb rfl) ?_
  refine RD.ireturn (pc := 101) dX6_slot_101 rfl rfl ?_
  exact ⟨rfl, rfl⟩

set_option maxRecDepth 20000 in
set_option maxHeartbeats 1000000 in
theorem m_slot5 (K : EK) (d : Nat) (D : DT) {s : Nat} (hs : s < 8) : CF K mX6_slot (d + 2) [rR (14, 0, 0), rI (nI s), rI 5] D (some (rI (D (15, 5, 0) s))) D := by
  refine CF.of [some (rR (14, 0, 0)), some (rI (nI s)), some (rI 5), none, none] (by decide) (leb rfl) rfl ?_
  refine RD.iload_n (pc := 0) dX6_slot_0 rfl ?_
  refine RD.cS1 (pc := 1) dX6_slot_1 mlX6_75 (c_mIsSlot K _ D (nI s)) (leb rfl) ?_
  refine RD.if_ne (pc := 4) 9 dX6_slot_4 (by decide) (fun c4 => ?_) (fun c4 => absurd c4 (bIin (by decide) hs))
  refine RD.iload_n (pc := 9) dX6_slot_9 rfl ?_
  refine RD.tableIn (pc := 10) 102 dX6_slot_10 (by decide) (by decide) rfl (by decide) ?_
  refine RD.aload_n (pc := 102) dX6_slot_102 rfl ?_
  refine RD.getR (pc := 103) dX6_slot_103 flX6_25 ok14 rfl rfl ?_
  refine RD.iload_n (pc := 106) dX6_slot_106 rfl ?_
  refine RD.iL (pc := 107) (n := 8) s (v := D (15, 5, 0) s) rfl dX6_slot_107 (ok15 (by decide)) rfl rfl hs (by decide) ?_
  refine RD.ireturn (pc := 108) dX6_slot_108 rfl rfl ?_
  exact ⟨rfl, rfl⟩

set_option maxRecDepth 20000 in
set_option maxHeartbeats 1000000 in
theorem m_slot6 (K : EK) (d : Nat) (D : DT) {s : Nat} (hs : s < 8) : CF K mX6_slot (d + 2) [rR (14, 0, 0), rI (nI s), rI 6] D (some (rI (nI (cnF D (8 * 0 + s))))) D := by
  refine CF.of [some (rR (14, 0, 0)), some (rI (nI s)), some (rI 6), none, none] (by decide) (leb rfl) rfl ?_
  refine RD.iload_n (pc := 0) dX6_slot_0 rfl ?_
  refine RD.cS1 (pc := 1) dX6_slot_1 mlX6_75 (c_mIsSlot K _ D (nI s)) (leb rfl) ?_
  refine RD.if_ne (pc := 4) 9 dX6_slot_4 (by decide) (fun c4 => ?_) (fun c4 => absurd c4 (bIin (by decide) hs))
  refine RD.iload_n (pc := 9) dX6_slot_9 rfl ?_
  refine RD.tableIn (pc := 10) 109 dX6_slot_10 (by decide) (by decide) rfl (by decide) ?_
  refine RD.aload_n (pc := 109) dX6_slot_109 rfl ?_
  refine RD.iload_n (pc := 110) dX6_slot_110 rfl ?_
  refine RD.iconst (pc := 111) (v := 0) dX6_slot_111 (by decide) ?_
  refine RD.cV2 (pc := 112) dX6_slot_112 mlX6_139 rfl ok14 rfl (c_capab K _ (s := s) (q := 0) (by omega) (by omega) D) (leb rfl) ?_
  refine RD.ireturn (pc := 115) dX6_slot_115 rfl rfl ?_
  exact ⟨rfl, rfl⟩

set_option maxRecDepth 20000 in
set_option maxHeartbeats 1000000 in
theorem m_slot7 (K : EK) (d : Nat) (D : DT) {s : Nat} (hs : s < 8) : CF K mX6_slot (d + 2) [rR (14, 0, 0), rI (nI s), rI 7] D (some (rI (nI (cnF D (8 * 1 + s))))) D := by
  refine CF.of [some (rR (14, 0, 0)), some (rI (nI s)), some (rI 7), none, none] (by decide) (leb rfl) rfl ?_
  refine RD.iload_n (pc := 0) dX6_slot_0 rfl ?_
  refine RD.cS1 (pc := 1) dX6_slot_1 mlX6_75 (c_mIsSlot K _ D (nI s)) (leb rfl) ?_
  refine RD.if_ne (pc := 4) 9 dX6_slot_4 (by decide) (fun c4 => ?_) (fun c4 => absurd c4 (bIin (by decide) hs))
  refine RD.iload_n (pc := 9) dX6_slot_9 rfl ?_
  refine RD.tableIn (pc := 10) 116 dX6_slot_10 (by decide) (by decide) rfl (by decide) ?_
  refine RD.aload_n (pc := 116) dX6_slot_116 rfl ?_
  refine RD.iload_n (pc := 117) dX6_slot_117 rfl ?_
  refine RD.iconst (pc := 118) (v := 1) dX6_slot_118 (by decide) ?_
  refine RD.cV2 (pc := 119) dX6_slot_119 mlX6_139 rfl ok14 rfl (c_capab K _ (s := s) (q := 1) (by omega) (by omega) D) (leb rfl) ?_
  refine RD.ireturn (pc := 122) dX6_slot_122 rfl rfl ?_
  exact ⟨rfl, rfl⟩

set_option maxRecDepth 20000 in
set_option maxHeartbeats 1000000 in
theorem m_slot8 (K : EK) (d : Nat) (D : DT) {s : Nat} (hs : s < 8) : CF K mX6_slot (d + 2) [rR (14, 0, 0), rI (nI s), rI 8] D (some (rI (D (15, 10, 0) s))) D := by
  refine CF.of [some (rR (14, 0, 0)), some (rI (nI s)), some (rI 8), none, none] (by decide) (leb rfl) rfl ?_
  refine RD.iload_n (pc := 0) dX6_slot_0 rfl ?_
  refine RD.cS1 (pc := 1) dX6_slot_1 mlX6_75 (c_mIsSlot K _ D (nI s)) (leb rfl) ?_
  refine RD.if_ne (pc := 4) 9 dX6_slot_4 (by decide) (fun c4 => ?_) (fun c4 => absurd c4 (bIin (by decide) hs))
  refine RD.iload_n (pc := 9) dX6_slot_9 rfl ?_
  refine RD.tableIn (pc := 10) 123 dX6_slot_10 (by decide) (by decide) rfl (by decide) ?_
  refine RD.aload_n (pc := 123) dX6_slot_123 rfl ?_
  refine RD.getR (pc := 124) dX6_slot_124 flX6_42 ok14 rfl rfl ?_
  refine RD.iload_n (pc := 127) dX6_slot_127 rfl ?_
  refine RD.iL (pc := 128) (n := 8) s (v := D (15, 10, 0) s) rfl dX6_slot_128 (ok15 (by decide)) rfl rfl hs (by decide) ?_
  refine RD.ireturn (pc := 129) dX6_slot_129 rfl rfl ?_
  exact ⟨rfl, rfl⟩

set_option maxRecDepth 20000 in
set_option maxHeartbeats 1000000 in
theorem m_slot10 (K : EK) (d : Nat) (D : DT) {s : Nat} (hs : s < 8) : CF K mX6_slot (d + 2) [rR (14, 0, 0), rI (nI s), rI 10] D (some (rI (D (15, 14, 0) s))) D := by
  refine CF.of [some (rR (14, 0, 0)), some (rI (nI s)), some (rI 10), none, none] (by decide) (leb rfl) rfl ?_
  refine RD.iload_n (pc := 0) dX6_slot_0 rfl ?_
  refine RD.cS1 (pc := 1) dX6_slot_1 mlX6_75 (c_mIsSlot K _ D (nI s)) (leb rfl) ?_
  refine RD.if_ne (pc := 4) 9 dX6_slot_4 (by decide) (fun c4 => ?_) (fun c4 => absurd c4 (bIin (by decide) hs))
  refine RD.iload_n (pc := 9) dX6_slot_9 rfl ?_
  refine RD.tableIn (pc := 10) 176 dX6_slot_10 (by decide) (by decide) rfl (by decide) ?_
  refine RD.aload_n (pc := 176) dX6_slot_176 rfl ?_
  refine RD.getR (pc := 177) dX6_slot_177 flX6_54 ok14 rfl rfl ?_
  refine RD.iload_n (pc := 180) dX6_slot_180 rfl ?_
  refine RD.iL (pc := 181) (n := 8) s (v := D (15, 14, 0) s) rfl dX6_slot_181 (ok15 (by decide)) rfl rfl hs (by decide) ?_
  refine RD.ireturn (pc := 182) dX6_slot_182 rfl rfl ?_
  exact ⟨rfl, rfl⟩


def mcf (D : DT) (s : Nat) : Nat → Nat → Int32 → Int32
  | 0, _, c => c
  | n + 1, k, c => mcf D s n (k + 1) (if D (15, 8, 0) (8 * s + k) = 0 then c + 0 else c + 1)

set_option maxRecDepth 20000 in
set_option maxHeartbeats 2000000 in
theorem l_mslot (K : EK) (d : Nat) {s : Nat} (hs : s < 8) (D : DT) : ∀ n (k : Nat) (c : Int32), k + n = 8 → RD K mX6_slot (d + 2) 138 [some (rR (14, 0, 0)), some (rI (nI s)), some (rI 9), some (rI c), some (rI (nI (8 * s + k)))] [] D (fun r0 D0 => r0 = some (rI (mcf D s n k c)) ∧ D0 = D) := by
  intro n
  induction n with
  | zero =>
    intro k c hk
    refine RD.iload (pc := 138) dX6_slot_138 rfl ?_
    refine RD.bipush (pc := 140) (v := 8) dX6_slot_140 (by decide) ?_
    refine RD.iload_n (pc := 142) dX6_slot_142 rfl ?_
    refine RD.imul (pc := 143) dX6_slot_143 ?_
    refine RD.eqI (pk_mul 8 s) ?_
    refine RD.bipush (pc := 144) (v := 8) dX6_slot_144 (by decide) ?_
    refine RD.iadd (pc := 146) dX6_slot_146 ?_
    refine RD.eqI (nI_add (8 * s) 8) ?_
    refine RD.icmp_ge (pc := 147) 174 dX6_slot_147 (by decide) (fun _ => ?_) (fun c147 => absurd (nI_le (a := 8 * s + 8) (b := 8 * s + k) (by omega) (by omega)) c147)
    refine RD.iload_n (pc := 174) dX6_slot_174 rfl ?_
    refine RD.ireturn (pc := 175) dX6_slot_175 rfl rfl ?_
    exact ⟨rfl, rfl⟩
  | succ n ih =>
    intro k c hk
    refine RD.iload (pc := 138) dX6_slot_138 rfl ?_
    refine RD.bipush (pc := 140) (v := 8) dX6_slot_140 (by decide) ?_
    refine RD.iload_n (pc := 142) dX6_slot_142 rfl ?_
    refine RD.imul (pc := 143) dX6_slot_143 ?_
    refine RD.eqI (pk_mul 8 s) ?_
    refine RD.bipush (pc := 144) (v := 8) dX6_slot_144 (by decide) ?_
    refine RD.iadd (pc := 146) dX6_slot_146 ?_
    refine RD.eqI (nI_add (8 * s) 8) ?_
    refine RD.icmp_ge (pc := 147) 174 dX6_slot_147 (by decide) (fun c147 => absurd c147 (nI_ge (a := 8 * s + k) (b := 8 * s + 8) (by omega) (by omega))) (fun c147 => ?_)
    refine RD.iload_n (pc := 150) dX6_slot_150 rfl ?_
    refine RD.aload_n (pc := 151) dX6_slot_151 rfl ?_
    refine RD.getR (pc := 152) dX6_slot_152 flX6_36 ok14 rfl rfl ?_
    refine RD.iload (pc := 155) dX6_slot_155 rfl ?_
    refine RD.zL (pc := 157) (n := 64) (8 * s + k) (v := D (15, 8, 0) (8 * s + k)) rfl dX6_slot_157 (ok15 (by decide)) rfl rfl (by omega) (by decide) ?_
    refine RD.if_eq (pc := 158) 165 dX6_slot_158 (by decide) (fun c158 => ?_) (fun c158 => ?_)
    · refine RD.iconst (pc := 165) (v := 0) dX6_slot_165 (by decide) ?_
      refine RD.iadd (pc := 166) dX6_slot_166 ?_
      rw [show mcf D s (n + 1) k c = mcf D s n (k + 1) (c + 0) by simp only [mcf, c158, if_true, if_false]]
      refine RD.istore_n (pc := 167) (ls' := [some (rR (14, 0, 0)), some (rI (nI s)), some (rI 9), some (rI (c + 0)), some (rI (nI (8 * s + k)))]) dX6_slot_167 (by decide) rfl ?_
      refine RD.iinc (pc := 168) (ls' := [some (rR (14, 0, 0)), some (rI (nI s)), some (rI 9), some (rI (c + 0)), some (rI (nI (8 * s + (k + 1))))]) dX6_slot_168 rfl (nI_1 (8 * s + k)) (by decide) rfl ?_
      refine RD.goto (pc := 171) 138 dX6_slot_171 (by decide) ?_
      exact ih (k + 1) (c + 0) (by omega)
    · refine RD.iconst (pc := 161) (v := 1) dX6_slot_161 (by decide) ?_
      refine RD.goto (pc := 162) 166 dX6_slot_162 (by decide) ?_
      refine RD.iadd (pc := 166) dX6_slot_166 ?_
      rw [show mcf D s (n + 1) k c = mcf D s n (k + 1) (c + 1) by simp only [mcf, c158, if_true, if_false]]
      refine RD.istore_n (pc := 167) (ls' := [some (rR (14, 0, 0)), some (rI (nI s)), some (rI 9), some (rI (c + 1)), some (rI (nI (8 * s + k)))]) dX6_slot_167 (by decide) rfl ?_
      refine RD.iinc (pc := 168) (ls' := [some (rR (14, 0, 0)), some (rI (nI s)), some (rI 9), some (rI (c + 1)), some (rI (nI (8 * s + (k + 1))))]) dX6_slot_168 rfl (nI_1 (8 * s + k)) (by decide) rfl ?_
      refine RD.goto (pc := 171) 138 dX6_slot_171 (by decide) ?_
      exact ih (k + 1) (c + 1) (by omega)

set_option maxRecDepth 20000 in
set_option maxHeartbeats 1000000 in
theorem m_slot9 (K : EK) (d : Nat) (D : DT) {s : Nat} (hs : s < 8) : CF K mX6_slot (d + 2) [rR (14, 0, 0), rI (nI s), rI 9] D (some (rI (mcf D s 8 0 0))) D := by
  refine CF.of [some (rR (14, 0, 0)), some (rI (nI s)), some (rI 9), none, none] (by decide) (leb rfl) rfl ?_
  refine RD.iload_n (pc := 0) dX6_slot_0 rfl ?_
  refine RD.cS1 (pc := 1) dX6_slot_1 mlX6_75 (c_mIsSlot K _ D (nI s)) (leb rfl) ?_
  refine RD.if_ne (pc := 4) 9 dX6_slot_4 (by decide) (fun c4 => ?_) (fun c4 => absurd c4 (bIin (by decide) hs))
  refine RD.iload_n (pc := 9) dX6_slot_9 rfl ?_
  refine RD.tableIn (pc := 10) 130 dX6_slot_10 (by decide) (by decide) rfl (by decide) ?_
  refine RD.iconst (pc := 130) (v := 0) dX6_slot_130 (by decide) ?_
  refine RD.istore_n (pc := 131) (ls' := [some (rR (14, 0, 0)), some (rI (nI s)), some (rI 9), some (rI 0), none]) dX6_slot_131 (by decide) rfl ?_
  refine RD.bipush (pc := 132) (v := 8) dX6_slot_132 (by decide) ?_
  refine RD.iload_n (pc := 134) dX6_slot_134 rfl ?_
  refine RD.imul (pc := 135) dX6_slot_135 ?_
  refine RD.eqI (pk_mul 8 s) ?_
  refine RD.istore (pc := 136) (ls' := [some (rR (14, 0, 0)), some (rI (nI s)), some (rI 9), some (rI 0), some (rI (nI (8 * s)))]) dX6_slot_136 (by decide) rfl ?_
  exact l_mslot K d hs D 8 0 0 rfl

set_option maxRecDepth 20000 in
set_option maxHeartbeats 1000000 in
theorem m_slotX (K : EK) (d : Nat) (D : DT) {s : Nat} (hs : s < 8) (x : Int32) (h : x.toInt < 0 ∨ 10 < x.toInt) : CF K mX6_slot (d + 2) [rR (14, 0, 0), rI (nI s), rI x] D (some (rI (-1))) D := by
  refine CF.of [some (rR (14, 0, 0)), some (rI (nI s)), some (rI x), none, none] (by decide) (leb rfl) rfl ?_
  refine RD.iload_n (pc := 0) dX6_slot_0 rfl ?_
  refine RD.cS1 (pc := 1) dX6_slot_1 mlX6_75 (c_mIsSlot K _ D (nI s)) (leb rfl) ?_
  refine RD.if_ne (pc := 4) 9 dX6_slot_4 (by decide) (fun c4 => ?_) (fun c4 => absurd c4 (bIin (by decide) hs))
  refine RD.iload_n (pc := 9) dX6_slot_9 rfl ?_
  refine RD.tableOut (pc := 10) 183 dX6_slot_10 h (by decide) ?_
  refine RD.iconst (pc := 183) (v := (-1)) dX6_slot_183 (by decide) ?_
  refine RD.ireturn (pc := 184) dX6_slot_184 rfl rfl ?_
  exact ⟨rfl, rfl⟩

set_option maxRecDepth 20000 in
set_option maxHeartbeats 1000000 in
theorem m_slotN (K : EK) (d : Nat) (D : DT) (a x : Int32) (h : inR a 8 = false) : CF K mX6_slot (d + 2) [rR (14, 0, 0), rI a, rI x] D (some (rI (-1))) D := by
  refine CF.of [some (rR (14, 0, 0)), some (rI a), some (rI x), none, none] (by decide) (leb rfl) rfl ?_
  refine RD.iload_n (pc := 0) dX6_slot_0 rfl ?_
  refine RD.cS1 (pc := 1) dX6_slot_1 mlX6_75 (c_mIsSlot K _ D a) (leb rfl) ?_
  refine RD.if_ne (pc := 4) 9 dX6_slot_4 (by decide) (fun c4 => absurd (bIout h) c4) (fun c4 => ?_)
  refine RD.iconst (pc := 7) (v := (-1)) dX6_slot_7 (by decide) ?_
  refine RD.ireturn (pc := 8) dX6_slot_8 rfl rfl ?_
  exact ⟨rfl, rfl⟩
