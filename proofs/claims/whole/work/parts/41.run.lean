set_option maxRecDepth 20000 in
set_option maxHeartbeats 2000000 in
theorem l_runX1 (K : EK) (d : Nat) {m k T : Nat} (hkm : k < m) (hm : m ≤ 5000) (hT31 : T < 2 ^ 31) {X X2 : DT} (hTx : X (0, 0, 0) 2 = nI T) (Q : Option AV → DT → Prop) (hl : X (2, T % 8, 0) 4 = 1) (g1 : CF K mX5_step (d + 6) [rR (0, 0, 0), rR (2, T % 8, 0)] (up X (0, 0, 0) 2 (nI T + 1)) none X2) (hx : RD K mX5_run (d + 7) 15 [some (rR (0, 0, 0)), some (rI (nI m)), some (rI (nI (k + 1))), none] [] X2 Q) : RD K mX5_run (d + 7) 15 [some (rR (0, 0, 0)), some (rI (nI m)), some (rI (nI k)), none] [] X Q := by
  have hs8 : T % 8 < 8 := Nat.mod_lt _ (by decide)
  have hl1 := hl
  refine RD.iload_n (pc := 15) dX5_run_15 rfl ?_
  refine RD.iload_n (pc := 16) dX5_run_16 rfl ?_
  refine RD.icmp_ge (pc := 17) 64 dX5_run_17 (by decide) (fun c17 => absurd c17 (nI_ge (a := k) (b := m) (by omega) (by omega))) (fun c17 => ?_)
  refine RD.aload_n (pc := 20) dX5_run_20 rfl ?_
  refine RD.getR (pc := 21) dX5_run_21 flX5_11 ok0 rfl rfl ?_
  refine RD.aload_n (pc := 24) dX5_run_24 rfl ?_
  refine RD.gI (pc := 25) (v := nI T) hTx dX5_run_25 flX5_25 ok0 rfl rfl ?_
  refine RD.bipush (pc := 28) (v := 8) dX5_run_28 (by decide) ?_
  refine RD.cS2 (pc := 30) dX5_run_30 mlX5_92 (c_floorMod K _ X hT31) (leb rfl) ?_
  refine RD.aald (pc := 33) (T % 8) dX5_run_33 ok1 rfl rfl rfl (by omega) (by decide) ?_
  refine RD.astore_n (pc := 34) (ls' := [some (rR (0, 0, 0)), some (rI (nI m)), some (rI (nI k)), some (rR (2, (T % 8), 0))]) dX5_run_34 (by decide) rfl ?_
  refine RD.aload_n (pc := 35) dX5_run_35 rfl ?_
  refine RD.dup (pc := 36) dX5_run_36 ?_
  refine RD.gI (pc := 37) (v := nI T) hTx dX5_run_37 flX5_25 ok0 rfl rfl ?_
  refine RD.iconst (pc := 40) (v := 1) dX5_run_40 (by decide) ?_
  refine RD.iadd (pc := 41) dX5_run_41 ?_
  refine RD.putf (pc := 42) dX5_run_42 fpX5_25 ok0 rfl rfl rfl rfl ?_
  refine RD.aload_n (pc := 45) dX5_run_45 rfl ?_
  refine RD.gI (pc := 46) (v := X (2, (T % 8), 0) 4) (up_N (by simp) rfl) dX5_run_46 flX5_37 (ok2 (by omega)) rfl rfl ?_
  refine RD.iconst (pc := 49) (v := 1) dX5_run_49 (by decide) ?_
  refine RD.icmp_ne (pc := 50) 58 dX5_run_50 (by decide) (fun c50 => absurd hl1 c50) (fun c50 => ?_)
  refine RD.aload_n (pc := 53) dX5_run_53 rfl ?_
  refine RD.aload_n (pc := 54) dX5_run_54 rfl ?_
  refine RD.cV1v (pc := 55) dX5_run_55 mlX5_98 rfl ok0 rfl g1 (leb rfl) ?_
  refine RD.forget 3 (ls' := [some (rR (0, 0, 0)), some (rI (nI m)), some (rI (nI k)), none]) rfl ?_
  refine RD.iinc (pc := 58) (ls' := [some (rR (0, 0, 0)), some (rI (nI m)), some (rI (nI (k + 1))), none]) dX5_run_58 rfl (nI_1 k) (by decide) rfl ?_
  refine RD.goto (pc := 61) 15 dX5_run_61 (by decide) ?_
  exact hx

set_option maxRecDepth 20000 in
set_option maxHeartbeats 2000000 in
theorem l_runX0 (K : EK) (d : Nat) {m k T : Nat} (hkm : k < m) (hm : m ≤ 5000) (hT31 : T < 2 ^ 31) {X : DT} (hTx : X (0, 0, 0) 2 = nI T) (Q : Option AV → DT → Prop) (hl : ¬ X (2, T % 8, 0) 4 = 1) (hx : RD K mX5_run (d + 7) 15 [some (rR (0, 0, 0)), some (rI (nI m)), some (rI (nI (k + 1))), none] [] (up X (0, 0, 0) 2 (nI T + 1)) Q) : RD K mX5_run (d + 7) 15 [some (rR (0, 0, 0)), some (rI (nI m)), some (rI (nI k)), none] [] X Q := by
  have hs8 : T % 8 < 8 := Nat.mod_lt _ (by decide)
  have hl1 := hl
  refine RD.iload_n (pc := 15) dX5_run_15 rfl ?_
  refine RD.iload_n (pc := 16) dX5_run_16 rfl ?_
  refine RD.icmp_ge (pc := 17) 64 dX5_run_17 (by decide) (fun c17 => absurd c17 (nI_ge (a := k) (b := m) (by omega) (by omega))) (fun c17 => ?_)
  refine RD.aload_n (pc := 20) dX5_run_20 rfl ?_
  refine RD.getR (pc := 21) dX5_run_21 flX5_11 ok0 rfl rfl ?_
  refine RD.aload_n (pc := 24) dX5_run_24 rfl ?_
  refine RD.gI (pc := 25) (v := nI T) hTx dX5_run_25 flX5_25 ok0 rfl rfl ?_
  refine RD.bipush (pc := 28) (v := 8) dX5_run_28 (by decide) ?_
  refine RD.cS2 (pc := 30) dX5_run_30 mlX5_92 (c_floorMod K _ X hT31) (leb rfl) ?_
  refine RD.aald (pc := 33) (T % 8) dX5_run_33 ok1 rfl rfl rfl (by omega) (by decide) ?_
  refine RD.astore_n (pc := 34) (ls' := [some (rR (0, 0, 0)), some (rI (nI m)), some (rI (nI k)), some (rR (2, (T % 8), 0))]) dX5_run_34 (by decide) rfl ?_
  refine RD.aload_n (pc := 35) dX5_run_35 rfl ?_
  refine RD.dup (pc := 36) dX5_run_36 ?_
  refine RD.gI (pc := 37) (v := nI T) hTx dX5_run_37 flX5_25 ok0 rfl rfl ?_
  refine RD.iconst (pc := 40) (v := 1) dX5_run_40 (by decide) ?_
  refine RD.iadd (pc := 41) dX5_run_41 ?_
  refine RD.putf (pc := 42) dX5_run_42 fpX5_25 ok0 rfl rfl rfl rfl ?_
  refine RD.aload_n (pc := 45) dX5_run_45 rfl ?_
  refine RD.gI (pc := 46) (v := X (2, (T % 8), 0) 4) (up_N (by simp) rfl) dX5_run_46 flX5_37 (ok2 (by omega)) rfl rfl ?_
  refine RD.iconst (pc := 49) (v := 1) dX5_run_49 (by decide) ?_
  refine RD.icmp_ne (pc := 50) 58 dX5_run_50 (by decide) (fun c50 => ?_) (fun c50 => absurd c50 hl1)
  refine RD.forget 3 (ls' := [some (rR (0, 0, 0)), some (rI (nI m)), some (rI (nI k)), none]) rfl ?_
  refine RD.iinc (pc := 58) (ls' := [some (rR (0, 0, 0)), some (rI (nI m)), some (rI (nI (k + 1))), none]) dX5_run_58 rfl (nI_1 k) (by decide) rfl ?_
  refine RD.goto (pc := 61) 15 dX5_run_61 (by decide) ?_
  exact hx

set_option maxRecDepth 20000 in
set_option maxHeartbeats 2000000 in
theorem l_runM (K : EK) (d : Nat) {m k T : Nat} (hkm : k < m) (hm : m ≤ 5000) (hT31 : T < 2 ^ 31) {M M2 : DT} (hTm : M (14, 0, 0) 17 = nI T) (hTm2 : M2 (14, 0, 0) 17 = nI T) (Q : Option AV → DT → Prop) (g1 : CF K mX6_turn (d + 6) [rR (14, 0, 0), rI (nI (T % 8))] M none M2) (hx : RD K mX6_run (d + 7) 15 [some (rR (14, 0, 0)), some (rI (nI m)), some (rI (nI (k + 1)))] [] (up M2 (14, 0, 0) 17 (nI T + 1)) Q) : RD K mX6_run (d + 7) 15 [some (rR (14, 0, 0)), some (rI (nI m)), some (rI (nI k))] [] M Q := by
  refine RD.iload_n (pc := 15) dX6_run_15 rfl ?_
  refine RD.iload_n (pc := 16) dX6_run_16 rfl ?_
  refine RD.icmp_ge (pc := 17) 47 dX6_run_17 (by decide) (fun c17 => absurd c17 (nI_ge (a := k) (b := m) (by omega) (by omega))) (fun c17 => ?_)
  refine RD.aload_n (pc := 20) dX6_run_20 rfl ?_
  refine RD.aload_n (pc := 21) dX6_run_21 rfl ?_
  refine RD.gI (pc := 22) (v := nI T) hTm dX6_run_22 flX6_157 ok14 rfl rfl ?_
  refine RD.bipush (pc := 25) (v := 8) dX6_run_25 (by decide) ?_
  refine RD.irem (pc := 27) dX6_run_27 (by decide) ?_
  refine RD.cV1v (pc := 28) dX6_run_28 mlX6_161 rfl ok14 rfl (by rw [rem8 hT31]; exact g1) (leb rfl) ?_
  refine RD.aload_n (pc := 31) dX6_run_31 rfl ?_
  refine RD.dup (pc := 32) dX6_run_32 ?_
  refine RD.gI (pc := 33) (v := nI T) hTm2 dX6_run_33 flX6_157 ok14 rfl rfl ?_
  refine RD.iconst (pc := 36) (v := 1) dX6_run_36 (by decide) ?_
  refine RD.iadd (pc := 37) dX6_run_37 ?_
  refine RD.putf (pc := 38) dX6_run_38 fpX6_157 ok14 rfl rfl rfl rfl ?_
  refine RD.iinc (pc := 41) (ls' := [some (rR (14, 0, 0)), some (rI (nI m)), some (rI (nI (k + 1)))]) dX6_run_41 rfl (nI_1 k) (by decide) rfl ?_
  refine RD.goto (pc := 44) 15 dX6_run_44 (by decide) ?_
  exact hx

set_option maxRecDepth 20000 in
theorem run_loop (K : EK) (d : Nat) {m : Nat} (hm : m ≤ 5000) : ∀ (r k T : Nat) (X : DT), k + r = m → T + r < 2 ^ 31 → (∃ M, Rel (T, T) X M) → ∃ X', RD K mX5_run (d + 7) 15 [some (rR (0, 0, 0)), some (rI (nI m)), some (rI (nI k)), none] [] X (fun r0 D0 => r0 = some (rI (nI (T + r))) ∧ D0 = X') ∧ FX X X' ∧ ∀ M, Rel (T, T) X M → ∃ M', RD K mX6_run (d + 7) 15 [some (rR (14, 0, 0)), some (rI (nI m)), some (rI (nI k))] [] M (fun r0 D0 => r0 = some (rI (nI (T + r))) ∧ D0 = M') ∧ FM M M' ∧ Rel (T + r, T + r) X' M' := by
  intro r
  induction r with
  | zero =>
    intro k T X hk hT h0
    obtain ⟨M0, hR0⟩ := h0
    have hTx : X (0, 0, 0) 2 = nI T := hR0.2.2.2.2.2.2.2.1.1
    refine ⟨X, ?_, fx_r, fun M hR => ⟨M, ?_, fm_r, hR⟩⟩
    · show RD K mX5_run (d + 7) 15 _ [] X _
      refine RD.iload_n (pc := 15) dX5_run_15 rfl ?_
      refine RD.iload_n (pc := 16) dX5_run_16 rfl ?_
      refine RD.icmp_ge (pc := 17) 64 dX5_run_17 (by decide) (fun c17 => ?_) (fun c17 => absurd (nI_le (by omega) (by omega)) c17)
      refine RD.aload_n (pc := 64) dX5_run_64 rfl ?_
      refine RD.gI (pc := 65) (v := nI T) hTx dX5_run_65 flX5_25 ok0 rfl rfl ?_
      refine RD.ireturn (pc := 68) dX5_run_68 rfl rfl ?_
      exact ⟨rfl, rfl⟩
    · have hTm : M (14, 0, 0) 17 = nI T := hR.2.2.2.2.2.2.2.1.2
      refine RD.iload_n (pc := 15) dX6_run_15 rfl ?_
      refine RD.iload_n (pc := 16) dX6_run_16 rfl ?_
      refine RD.icmp_ge (pc := 17) 47 dX6_run_17 (by decide) (fun c17 => ?_) (fun c17 => absurd (nI_le (by omega) (by omega)) c17)
      refine RD.aload_n (pc := 47) dX6_run_47 rfl ?_
      refine RD.gI (pc := 48) (v := nI T) hTm dX6_run_48 flX6_157 ok14 rfl rfl ?_
      refine RD.ireturn (pc := 51) dX6_run_51 rfl rfl ?_
      exact ⟨rfl, rfl⟩
  | succ r ih =>
    intro k T X hk hT h0
    obtain ⟨M0, hR0⟩ := h0
    have hTx : X (0, 0, 0) 2 = nI T := hR0.2.2.2.2.2.2.2.1.1
    have hs8 : T % 8 < 8 := Nat.mod_lt _ (by decide)
    have h1 : ∀ M, Rel (T, T) X M → Rel (T + 1, T) (up X (0, 0, 0) 2 (nI T + 1)) M := fun M hR => hR.turnX
    have hl0 : up X (0, 0, 0) 2 (nI T + 1) (2, T % 8, 0) 4 = X (2, T % 8, 0) 4 := by rw [up_n (by simp)]
    by_cases hl : X (2, T % 8, 0) 4 = 1
    · obtain ⟨X2, g1, g2, g3⟩ := stp_sim (T := (T + 1, T)) K d hs8 (by rw [hl0]; exact hl) ⟨M0, h1 M0 hR0⟩
      obtain ⟨M2, -, -, k3⟩ := g3 M0 (h1 M0 hR0)
      obtain ⟨X', e1, e2, e3⟩ := ih (k + 1) (T + 1) X2 (by omega) (by omega) ⟨_, k3.turnM⟩
      rw [show T + 1 + r = T + (r + 1) by omega] at e1 e3
      refine ⟨X', l_runX1 K d (by omega) hm (by omega) hTx _ hl g1 e1, fx_t (fx_t (fx_u fx_r (leb rfl)) g2) e2, fun M hR => ?_⟩
      obtain ⟨M2, k1, k2, k3⟩ := g3 M (h1 M hR)
      obtain ⟨M', f1, f2, f3⟩ := e3 _ k3.turnM
      exact ⟨M', l_runM K d (by omega) hm (by omega) hR.2.2.2.2.2.2.2.1.2 k3.2.2.2.2.2.2.2.1.2 _ k1 f1, fm_t (fm_t k2 (fm_u fm_r (leb rfl))) f2, f3⟩
    · obtain ⟨X', e1, e2, e3⟩ := ih (k + 1) (T + 1) (up X (0, 0, 0) 2 (nI T + 1)) (by omega) (by omega) ⟨_, (h1 M0 hR0).turnM⟩
      rw [show T + 1 + r = T + (r + 1) by omega] at e1 e3
      refine ⟨X', l_runX0 K d (by omega) hm (by omega) hTx _ hl e1, fx_t (fx_u fx_r (leb rfl)) e2, fun M hR => ?_⟩
      obtain ⟨M', f1, f2, f3⟩ := e3 _ (h1 M hR).turnM
      have ht : ¬ M (15, 3, 0) (T % 8) = 1 := by rw [(hR.2.1 (T % 8) hs8).2.2.1]; exact hl
      exact ⟨M', l_runM K d (by omega) hm (by omega) hR.2.2.2.2.2.2.2.1.2 hR.2.2.2.2.2.2.2.1.2 _ (m_turn0 K (d + 5) hs8 M ht) f1, fm_t (fm_u fm_r (leb rfl)) f2, f3⟩

set_option maxRecDepth 20000 in
set_option maxHeartbeats 2000000 in
theorem c_runN (K : EK) (d : Nat) (X : DT) (a : Int32) (h : inR a 5001 = false) : CF K mX5_run (d + 7) [rR (0, 0, 0), rI a] X (some (rI (-1))) X := by
  refine CF.of [some (rR (0, 0, 0)), some (rI a), none, none] (by decide) (leb rfl) rfl ?_
  refine RD.iload_n (pc := 0) dX5_run_0 rfl ?_
  refine RD.if_lt (pc := 1) 11 dX5_run_1 (by decide) (fun c1 => ?_) (fun c1 => ?_)
  · refine RD.iconst (pc := 11) (v := (-1)) dX5_run_11 (by decide) ?_
    refine RD.ireturn (pc := 12) dX5_run_12 rfl rfl ?_
    exact ⟨rfl, rfl⟩
  · refine RD.iload_n (pc := 4) dX5_run_4 rfl ?_
    refine RD.sipush (pc := 5) (v := 5000) dX5_run_5 (by decide) ?_
    refine RD.icmp_le (pc := 8) 13 dX5_run_8 (by decide) (fun c8 => ?_) (fun c8 => ?_)
    · exfalso
      obtain ⟨n, hn, rfl⟩ := nI_of2 (nI_toInt (n := 5000) (by decide)) c1 c8
      rw [inR_nI (by decide) (by omega)] at h
      cases h
    · refine RD.iconst (pc := 11) (v := (-1)) dX5_run_11 (by decide) ?_
      refine RD.ireturn (pc := 12) dX5_run_12 rfl rfl ?_
      exact ⟨rfl, rfl⟩

set_option maxRecDepth 20000 in
set_option maxHeartbeats 1000000 in
theorem m_runN (K : EK) (d : Nat) (M : DT) (a : Int32) (h : inR a 5001 = false) : CF K mX6_run (d + 7) [rR (14, 0, 0), rI a] M (some (rI (-1))) M := by
  refine CF.of [some (rR (14, 0, 0)), some (rI a), none] (by decide) (leb rfl) rfl ?_
  refine RD.iload_n (pc := 0) dX6_run_0 rfl ?_
  refine RD.iconst (pc := 1) (v := 0) dX6_run_1 (by decide) ?_
  refine RD.sipush (pc := 2) (v := 5000) dX6_run_2 (by decide) ?_
  refine RD.cS3 (pc := 5) dX6_run_5 mlX6_63 (c_mIsIn K _ M a 5000 (by decide)) (leb rfl) ?_
  refine RD.if_ne (pc := 8) 13 dX6_run_8 (by decide) (fun c8 => absurd (bIout h) c8) (fun c8 => ?_)
  refine RD.iconst (pc := 11) (v := (-1)) dX6_run_11 (by decide) ?_
  refine RD.ireturn (pc := 12) dX6_run_12 rfl rfl ?_
  exact ⟨rfl, rfl⟩

set_option maxRecDepth 20000 in
theorem s_run (K : EK) (d : Nat) {X : DT} {T : Nat} (a : Int32) (hT : T + 5000 < 2 ^ 31) (h0 : ∃ M, Rel (T, T) X M) : ∃ T', T' ≤ T + 5000 ∧ Sim K d mX5_run mX6_run [rI a] (T, T) (T', T') X := by
  by_cases h : inR a 5001 = true
  · obtain ⟨m, hm, rfl⟩ := inR_t (N := 5001) (by decide) h
    obtain ⟨X', e1, e2, e3⟩ := run_loop K d (m := m) (by omega) m 0 T X (by omega) (by omega) h0
    refine ⟨T + m, by omega, nI (T + m), X', CF.of [some (rR (0, 0, 0)), some (rI (nI m)), none, none] (by decide) (leb rfl) rfl ?_, e2, fun M hR => ?_⟩
    · show RD K mX5_run (d + 7) 0 _ [] X _
      refine RD.iload_n (pc := 0) dX5_run_0 rfl ?_
      refine RD.if_lt (pc := 1) 11 dX5_run_1 (by decide) (fun c1 => absurd c1 (nI_pos (by omega))) (fun c1 => ?_)
      refine RD.iload_n (pc := 4) dX5_run_4 rfl ?_
      refine RD.sipush (pc := 5) (v := 5000) dX5_run_5 (by decide) ?_
      refine RD.icmp_le (pc := 8) 13 dX5_run_8 (by decide) (fun c8 => ?_) (fun c8 => absurd (nI_le (a := m) (b := 5000) (by omega) (by decide)) c8)
      refine RD.iconst (pc := 13) (v := 0) dX5_run_13 (by decide) ?_
      refine RD.istore_n (pc := 14) (ls' := [some (rR (0, 0, 0)), some (rI (nI m)), some (rI 0), none]) dX5_run_14 (by decide) rfl ?_
      exact e1
    · obtain ⟨M', f1, f2, f3⟩ := e3 M hR
      refine ⟨M', CF.of [some (rR (14, 0, 0)), some (rI (nI m)), none] (by decide) (leb rfl) rfl ?_, f2, f3⟩
      refine RD.iload_n (pc := 0) dX6_run_0 rfl ?_
      refine RD.iconst (pc := 1) (v := 0) dX6_run_1 (by decide) ?_
      refine RD.sipush (pc := 2) (v := 5000) dX6_run_2 (by decide) ?_
      refine RD.cS3 (pc := 5) dX6_run_5 mlX6_63 (c_mIsIn K _ M (nI m) 5000 (by decide)) (leb rfl) ?_
      refine RD.if_ne (pc := 8) 13 dX6_run_8 (by decide) (fun c8 => ?_) (fun c8 => absurd c8 (bIin (by decide) hm))
      refine RD.iconst (pc := 13) (v := 0) dX6_run_13 (by decide) ?_
      refine RD.istore_n (pc := 14) (ls' := [some (rR (14, 0, 0)), some (rI (nI m)), some (rI 0)]) dX6_run_14 (by decide) rfl ?_
      exact f1
  · have h : inR a 5001 = false := by simpa using h
    exact ⟨T, by omega, _, _, c_runN K d X a h, fx_r, fun M hR => ⟨_, m_runN K d M a h, fm_r, hR⟩⟩
