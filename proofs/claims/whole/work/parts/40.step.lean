section STP
variable {X X' M M' E : DT} {T : Nat × Nat} {s : Nat}
theorem modop (v : Int32) : (v - v / 32 * 32) + 32 - ((v - v / 32 * 32) + 32) / 32 * 32 = v &&& 31 := by
  have h32 : (32 : Int32).toInt = 32 := by decide
  have hr := rem_toInt v 32
  rw [h32] at hr
  have hb := tmod_bounds (a := v.toInt) (M := 32) (by decide)
  generalize v - v / 32 * 32 = r at hr ⊢
  have ha : (r + 32).toInt = v.toInt.tmod 32 + 32 := by
    rw [Jvm.Kit.i32_add (by rw [hr, h32]; omega) (by rw [hr, h32]; omega), hr, h32]
  have hn : ¬ r + 32 < 0 := by
    rw [Int32.lt_iff_toInt_lt, ha, show (0 : Int32).toInt = 0 by decide]
    omega
  obtain ⟨b, hb2, he⟩ := nI_of hn
  rw [he]
  rw [he, nI_toInt hb2] at ha
  rw [show (32 : Int32) = nI 32 from rfl, pk_rem hb2 (by decide) (by decide), pk_and v 5 (by decide)]
  congr 1
  have ht : v.toInt = v.toBitVec.toInt := rfl
  have hlt := v.toBitVec.isLt
  rw [BitVec.toInt_eq_toNat_cond] at ht
  by_cases h0 : 0 ≤ v.toInt
  · rw [Int.tmod_eq_emod_of_nonneg h0] at ha
    split at ht <;> omega
  · have e : v.toInt.tmod 32 = -((-v.toInt).tmod 32) := by rw [Int.neg_tmod, Int.neg_neg]
    rw [e, Int.tmod_eq_emod_of_nonneg (by omega)] at ha
    split at ht <;> omega
theorem op_lt (v : Int32) : ∃ o, o < 32 ∧ v &&& 31 = nI o := pk_andE v 5 (by decide)
def StpSim (K : EK) (d : Nat) (X : DT) (s : Nat) (T : Nat × Nat) : Prop := ∃ X', CF K mX5_step (d + 6) [rR (0, 0, 0), rR (2, s, 0)] X none X' ∧ FX X X' ∧ ∀ M, Rel T X M → ∃ M', CF K mX6_turn (d + 6) [rR (14, 0, 0), rI (nI s)] M none M' ∧ FM M M' ∧ Rel T X' M'
def CelSim (K : EK) (d : Nat) (X : DT) (s : Nat) (T : Nat × Nat) (o y : Nat) : Prop := ∃ X', CF K mX5_cellInstruction (d + 5) [rR (2, s, 0), rI (nI o), rI (nI y)] X none X' ∧ FX X X' ∧ ∀ M, Rel T X M → ∃ M', CF K mX6_works (d + 5) [rR (14, 0, 0), rI (nI s), rI (nI o), rI (nI (128 * s + y))] M none M' ∧ FM M M' ∧ Rel T X' M'
theorem cel_sim (K : EK) (d : Nat) (hs : s < 8) {o y : Nat} (hy : y < 128) (ho : o = 1 ∨ o = 2 ∨ (4 ≤ o ∧ o ≤ 12)) : CelSim K d X s T o y := by
  have hA : ∀ M, Rel T X M → M (15, 1, 0) s = X (2, s, 0) 2 := fun M hR => (hR.2.1 s hs).1
  have hM : ∀ M, Rel T X M → M (15, 0, 0) (128 * s + y) = X (3, s, 0) y := fun M hR => hR.1 s hs y hy
  rcases (show o = 1 ∨ o = 2 ∨ o = 4 ∨ o = 5 ∨ o = 6 ∨ o = 7 ∨ o = 8 ∨ o = 9 ∨ o = 10 ∨ o = 11 ∨ o = 12 by omega) with rfl | rfl | rfl | rfl | rfl | rfl | rfl | rfl | rfl | rfl | rfl
  · exact ⟨_, c_cell1 K (d + 3) hs X hy, fx_u fx_r (leb rfl), fun M hR => ⟨_, (m_works1 K (d + 3) hs hy M).to rfl (by rw [hM M hR]), fm_u fm_r (leb rfl), hR.setA hs _⟩⟩
  · exact ⟨_, c_cell2 K (d + 3) hs X hy, fx_u fx_r (leb rfl), fun M hR => ⟨_, (m_works2 K (d + 3) hs hy M).to rfl (by rw [hA M hR]), fm_u fm_r (leb rfl), hR.mem hs hy _⟩⟩
  · by_cases h : inR (X (3, s, 0) y) 128 = true
    · obtain ⟨e, he, hv⟩ := inR_t (N := 128) (by decide) h
      exact ⟨_, c_cell4 K (d + 3) hs X hy he hv, fx_u fx_r (leb rfl), fun M hR => ⟨_, (m_works4 K (d + 3) hs hy M he (by rw [hM M hR]; exact hv)).to rfl (by rw [hR.1 s hs e he]), fm_u fm_r (leb rfl), hR.setA hs _⟩⟩
    · have h : inR (X (3, s, 0) y) 128 = false := by simpa using h
      exact ⟨_, c_cell4N K (d + 3) hs X hy h, fx_stop fx_r, fun M hR => ⟨_, m_works4N K (d + 3) hs hy M (by rw [hM M hR]; exact h), fm_trap fm_r, hR.trap hs 2⟩⟩
  · by_cases h : inR (X (3, s, 0) y) 128 = true
    · obtain ⟨e, he, hv⟩ := inR_t (N := 128) (by decide) h
      exact ⟨_, c_cell5 K (d + 3) hs X hy he hv, fx_u fx_r (leb rfl), fun M hR => ⟨_, (m_works5 K (d + 3) hs hy M he (by rw [hM M hR]; exact hv)).to rfl (by rw [hA M hR]), fm_u fm_r (leb rfl), hR.mem hs he _⟩⟩
    · have h : inR (X (3, s, 0) y) 128 = false := by simpa using h
      exact ⟨_, c_cell5N K (d + 3) hs X hy h, fx_stop fx_r, fun M hR => ⟨_, m_works5N K (d + 3) hs hy M (by rw [hM M hR]; exact h), fm_trap fm_r, hR.trap hs 2⟩⟩
  · exact ⟨_, c_cell6 K (d + 3) hs X hy, fx_u fx_r (leb rfl), fun M hR => ⟨_, (m_works6 K (d + 3) hs hy M).to rfl (by rw [hM M hR, hA M hR]), fm_u fm_r (leb rfl), hR.setA hs _⟩⟩
  · exact ⟨_, c_cell7 K (d + 3) hs X hy, fx_u fx_r (leb rfl), fun M hR => ⟨_, (m_works7 K (d + 3) hs hy M).to rfl (by rw [hM M hR, hA M hR]), fm_u fm_r (leb rfl), hR.setA hs _⟩⟩
  · exact ⟨_, c_cell8 K (d + 3) hs X hy, fx_u fx_r (leb rfl), fun M hR => ⟨_, (m_works8 K (d + 3) hs hy M).to rfl (by rw [hM M hR, hA M hR]), fm_u fm_r (leb rfl), hR.setA hs _⟩⟩
  · by_cases h : X (3, s, 0) y = 0
    · exact ⟨_, c_cell9N K (d + 3) hs X hy h, fx_stop fx_r, fun M hR => ⟨_, m_works9N K (d + 3) hs hy M (by rw [hM M hR]; exact h), fm_trap fm_r, hR.trap hs 3⟩⟩
    · exact ⟨_, c_cell9 K (d + 3) hs X hy h, fx_u fx_r (leb rfl), fun M hR => ⟨_, (m_works9 K (d + 3) hs hy M (by rw [hM M hR]; exact h)).to rfl (by rw [hM M hR, hA M hR]), fm_u fm_r (leb rfl), hR.setA hs _⟩⟩
  · by_cases h : X (3, s, 0) y = 0
    · exact ⟨_, c_cell10N K (d + 3) hs X hy h, fx_stop fx_r, fun M hR => ⟨_, m_works10N K (d + 3) hs hy M (by rw [hM M hR]; exact h), fm_trap fm_r, hR.trap hs 3⟩⟩
    · exact ⟨_, c_cell10 K (d + 3) hs X hy h, fx_u fx_r (leb rfl), fun M hR => ⟨_, (m_works10 K (d + 3) hs hy M (by rw [hM M hR]; exact h)).to rfl (by rw [hM M hR, hA M hR]), fm_u fm_r (leb rfl), hR.setA hs _⟩⟩
  · exact ⟨_, c_cell11 K (d + 3) hs X hy, fx_u fx_r (leb rfl), fun M hR => ⟨_, (m_works11 K (d + 3) hs hy M).to rfl (by rw [hM M hR, hA M hR]), fm_u fm_r (leb rfl), hR.setA hs _⟩⟩
  · exact ⟨_, c_cell12 K (d + 3) hs X hy, fx_u fx_r (leb rfl), fun M hR => ⟨_, (m_works12 K (d + 3) hs hy M).to rfl (by rw [hM M hR, hA M hR]), fm_u fm_r (leb rfl), hR.setA hs _⟩⟩
theorem wc_nI {o : Nat} (ho : o < 32) : wcB (nI o) = decide (o = 1 ∨ o = 2 ∨ (4 ≤ o ∧ o ≤ 12)) := by
  have : ∀ o, o < 32 → wcB (nI o) = decide (o = 1 ∨ o = 2 ∨ (4 ≤ o ∧ o ≤ 12)) := by decide
  exact this o ho
theorem nI_ne {a b : Nat} (ha : a < 2 ^ 31) (hb : b < 2 ^ 31) (h : a ≠ b) : ¬ nI a = nI b := fun e => h ((nI_eq ha hb).mp e)
theorem stp_sim (K : EK) (d : Nat) (hs : s < 8) (hl : X (2, s, 0) 4 = 1) (h0 : ∃ M, Rel T X M) : StpSim K d X s T := by
  have h3 : ∀ M, Rel T X M → M (15, 3, 0) s = 1 := fun M hR => by rw [(hR.2.1 s hs).2.2.1]; exact hl
  have h2 : ∀ M, Rel T X M → M (15, 2, 0) s = X (2, s, 0) 3 := fun M hR => (hR.2.1 s hs).2.1
  by_cases hp : inR (X (2, s, 0) 3) 128 = true
  · obtain ⟨q, hq, hpl⟩ := inR_t (N := 128) (by decide) hp
    obtain ⟨o, ho, hop⟩ := op_lt (X (3, s, 0) q)
    have hv : ∀ M, Rel T X M → M (15, 0, 0) (128 * s + q) = X (3, s, 0) q := fun M hR => hR.1 s hs q hq
    have hmop : ∀ M, Rel T X M → (M (15, 0, 0) (128 * s + q) - M (15, 0, 0) (128 * s + q) / 32 * 32) + 32 - ((M (15, 0, 0) (128 * s + q) - M (15, 0, 0) (128 * s + q) / 32 * 32) + 32) / 32 * 32 = nI o := fun M hR => by rw [modop, hv M hR]; exact hop
    have hmpl : ∀ M, Rel T X M → M (15, 2, 0) s = nI q := fun M hR => by rw [h2 M hR]; exact hpl
    obtain ⟨x, hx⟩ : ∃ x, X (3, s, 0) q >>> ((5 : Int32) &&& 31) = x := ⟨_, rfl⟩
    have hmx : ∀ M, Rel T X M → M (15, 0, 0) (128 * s + q) >>> ((5 : Int32) &&& 31) = x := fun M hR => by rw [hv M hR]; exact hx
    have r1 : ∀ M, Rel T X M → Rel T (up X (2, s, 0) 3 (nI q + 1)) (up M (15, 2, 0) s (nI (q + 1))) := fun M hR => by
      rw [nI_1]; exact hR.int (k := 3) (by decide) (by decide) hs _
    have h01 : ∃ M, Rel T (up X (2, s, 0) 3 (nI q + 1)) M := by obtain ⟨M0, hR0⟩ := h0; exact ⟨_, r1 M0 hR0⟩
    have ea : up X (2, s, 0) 3 (nI q + 1) (2, s, 0) 2 = X (2, s, 0) 2 := up_k (by decide)
    have hA : ∀ M, Rel T X M → M (15, 1, 0) s = X (2, s, 0) 2 := fun M hR => (hR.2.1 s hs).1
    have fx1 : FX X (up X (2, s, 0) 3 (nI q + 1)) := fx_u fx_r (leb rfl)
    have fm1 : ∀ M, FM M (up M (15, 2, 0) s (nI (q + 1))) := fun M => fm_u fm_r (leb rfl)
    by_cases o16 : o = 16
    · subst o16
      obtain ⟨X', g1, g2, g3⟩ := y_all K d hs x h01
      refine ⟨_, c_step16 K (d + 5) hs X hq hpl hop hx rfl g1, fx_t fx1 g2, fun M hR => ?_⟩
      obtain ⟨M', k1, k2, k3⟩ := g3 _ (r1 M hR)
      exact ⟨_, m_turnS K (d + 4) hs M (h3 M hR) hq (hmpl M hR) (hmop M hR) (hmx M hR) rfl k1, fm_t (fm1 M) k2, k3⟩
    · have n16 : ¬ nI o = 16 := nI_ne (b := 16) (by omega) (by decide) o16
      by_cases hw : o = 1 ∨ o = 2 ∨ (4 ≤ o ∧ o ≤ 12)
      · have hwc : wcB (nI o) = true := by rw [wc_nI ho]; exact decide_eq_true hw
        have z0 : ¬ nI o = 0 := nI_ne (b := 0) (by omega) (by decide) (by omega)
        have z3 : ¬ nI o = 3 := nI_ne (b := 3) (by omega) (by decide) (by omega)
        have z13 : nI o < 13 := nI_lt (b := 13) (by omega) (by decide)
        by_cases hxp : inR x 128 = true
        · obtain ⟨y, hy, rfl⟩ := inR_t (N := 128) (by decide) hxp
          obtain ⟨X', g1, g2, g3⟩ := cel_sim (X := up X (2, s, 0) 3 (nI q + 1)) (T := T) K d hs hy hw
          refine ⟨_, c_stepC K (d + 5) hs X hq hpl hop hx n16 hwc hxp g1, fx_t fx1 g2, fun M hR => ?_⟩
          obtain ⟨M', k1, k2, k3⟩ := g3 _ (r1 M hR)
          exact ⟨_, m_turnW K (d + 4) hs M (h3 M hR) hq (hmpl M hR) (hmop M hR) (hmx M hR) z0 z3 z13 hy rfl k1, fm_t (fm1 M) k2, k3⟩
        · have hxp : inR x 128 = false := by simpa using hxp
          exact ⟨_, c_stepT K (d + 5) hs X hq hpl hop hx n16 hwc hxp, fx_stop fx1, fun M hR => ⟨_, m_turnT2 K (d + 4) hs M (h3 M hR) hq (hmpl M hR) (hmop M hR) (hmx M hR) z0 z3 z13 hxp, fm_trap (fm1 M), (r1 M hR).trap hs 2⟩⟩
      · have hwc : wcB (nI o) = false := by rw [wc_nI ho]; exact decide_eq_false hw
        have pl : ∀ D2, CF K mX5_plainInstruction (d + 5) [rR (2, s, 0), rI (nI o), rI x] (up X (2, s, 0) 3 (nI q + 1)) none D2 → CF K mX5_step (d + 6) [rR (0, 0, 0), rR (2, s, 0)] X none D2 := fun D2 hc => c_stepP K (d + 5) hs X hq hpl hop hx n16 hwc hc
        by_cases e0 : o = 0
        · subst e0
          exact ⟨_, pl _ (c_plain0 K (d + 4) hs _ x), fx_u fx1 (leb rfl), fun M hR => ⟨_, m_turnH K (d + 4) hs M (h3 M hR) hq (hmpl M hR) (hmop M hR) (hmx M hR) rfl, fm_u (fm1 M) (leb rfl), (r1 M hR).int (k := 4) (by decide) (by decide) hs 2⟩⟩
        · by_cases e3 : o = 3
          · subst e3
            exact ⟨_, pl _ (c_plain3 K (d + 4) hs _ x), fx_u fx1 (leb rfl), fun M hR => ⟨_, m_turnA K (d + 4) hs M (h3 M hR) hq (hmpl M hR) (hmop M hR) (hmx M hR) rfl, fm_u (fm1 M) (leb rfl), (r1 M hR).setA hs x⟩⟩
          · by_cases e13 : o = 13
            · subst e13
              exact ⟨_, pl _ (c_plain13 K (d + 4) hs _ x), fx_u fx1 (leb rfl), fun M hR => ⟨_, m_turnJ K (d + 4) hs M (h3 M hR) hq (hmpl M hR) (hmop M hR) (hmx M hR) rfl, fm_u (fm1 M) (leb rfl), (r1 M hR).int (k := 3) (by decide) (by decide) hs x⟩⟩
            · by_cases e14 : o = 14
              · subst e14
                have hc := pl _ (c_plain14 K (d + 4) hs _ x)
                rw [ea] at hc
                by_cases hz : X (2, s, 0) 2 = 0
                · rw [if_pos hz] at hc
                  exact ⟨_, hc, fx_u fx1 (leb rfl), fun M hR => ⟨_, m_turnZ1 K (d + 4) hs M (h3 M hR) hq (hmpl M hR) (hmop M hR) (hmx M hR) rfl (by rw [hA M hR]; exact hz), fm_u (fm1 M) (leb rfl), (r1 M hR).int (k := 3) (by decide) (by decide) hs x⟩⟩
                · rw [if_neg hz] at hc
                  exact ⟨_, hc, fx1, fun M hR => ⟨_, m_turnZ0 K (d + 4) hs M (h3 M hR) hq (hmpl M hR) (hmop M hR) (hmx M hR) rfl (by rw [hA M hR]; exact hz), fm1 M, r1 M hR⟩⟩
              · by_cases e15 : o = 15
                · subst e15
                  have hc := pl _ (c_plain15 K (d + 4) hs _ x)
                  rw [ea] at hc
                  by_cases hz : X (2, s, 0) 2 < 0
                  · rw [if_pos hz] at hc
                    exact ⟨_, hc, fx_u fx1 (leb rfl), fun M hR => ⟨_, m_turnM1 K (d + 4) hs M (h3 M hR) hq (hmpl M hR) (hmop M hR) (hmx M hR) rfl (by rw [hA M hR]; exact hz), fm_u (fm1 M) (leb rfl), (r1 M hR).int (k := 3) (by decide) (by decide) hs x⟩⟩
                  · rw [if_neg hz] at hc
                    exact ⟨_, hc, fx1, fun M hR => ⟨_, m_turnM0 K (d + 4) hs M (h3 M hR) hq (hmpl M hR) (hmop M hR) (hmx M hR) rfl (by rw [hA M hR]; exact hz), fm1 M, r1 M hR⟩⟩
                · have hO : (16 : Int32) < nI o := nI_lt (a := 16) (by omega) (by omega)
                  exact ⟨_, pl _ (c_plainX K (d + 4) hs _ (nI o) x (nI_ne (b := 0) (by omega) (by decide) e0) (nI_ne (b := 3) (by omega) (by decide) e3) (nI_ne (b := 13) (by omega) (by decide) e13) (nI_ne (b := 14) (by omega) (by decide) e14) (nI_ne (b := 15) (by omega) (by decide) e15)), fx_stop fx1, fun M hR => ⟨_, m_turnT1 K (d + 4) hs M (h3 M hR) hq (hmpl M hR) (hmop M hR) (hmx M hR) hO, fm_trap (fm1 M), (r1 M hR).trap hs 1⟩⟩
  · have hp : inR (X (2, s, 0) 3) 128 = false := by simpa using hp
    exact ⟨_, c_stepN K (d + 5) hs X hp, fx_stop fx_r, fun M hR => ⟨_, m_turnN K (d + 4) hs M (h3 M hR) (by rw [h2 M hR]; exact hp), fm_trap fm_r, hR.trap hs 2⟩⟩
end STP
