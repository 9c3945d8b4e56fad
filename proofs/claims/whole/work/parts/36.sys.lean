section SYS
variable {X X' M M' : DT} {T : Nat × Nat} {s : Nat}
theorem addF_cases {i j n : Nat} (hn : n < 256) : (tg (X (5, i, j)) n = true ∧ addF X i j (nI n) = X) ∨ (tg (X (5, i, j)) n = false ∧ addF X i j (nI n) = addD X i j n) := by
  cases h : tg (X (5, i, j)) n with
  | true => exact Or.inl ⟨rfl, addF_had (by rw [hasF_tg hn]; exact h)⟩
  | false => exact Or.inr ⟨rfl, addF_new hn (by rw [hasF_tg hn]; exact h)⟩
theorem Rel.capPut (h : Rel T X M) (hs : s < 8) {q n : Nat} (hq : q < 2) (hn : n < 256) (hc : cntN (tg (X (5, s, 1 + q))) 256 < 40) : Rel T (addF X s (1 + q) (nI n)) (up M (15, 7, 0) (256 * (8 * q + s) + n) 1) := by
  have hb := (h.2.2.2.1 s hs q hq).1
  rcases addF_cases (X := X) (i := s) (j := 1 + q) hn with ⟨e1, e2⟩ | ⟨e1, e2⟩
  · rw [e2, up_id (hb.o hn e1)]; exact h
  · rw [e2]; exact h.capAdd hs hq hn e1 hc
theorem fx_addF {i j : Nat} {t : Int32} (h : FX X X') : FX X (addF X' i j t) := fun a ha => by rw [addF_o (by omega) (by omega)]; exact h a ha
theorem fx_remF {i j : Nat} {t : Int32} (h : FX X X') : FX X (remF X' i j t) := fun a ha => by rw [remF_o (by omega) (by omega)]; exact h a ha
theorem addF_n {i j : Nat} {t : Int32} {a : AD} (h4 : a ≠ (4, i, j)) (h5 : a ≠ (5, i, j)) : addF X i j t a = X a := by
  unfold addF
  split
  · exact addD_n h4 h5
  · rfl
/-! a told list -/
theorem clrF_n {i j : Nat} {a : AD} (h4 : a ≠ (4, i, j)) (h5 : a ≠ (5, i, j)) : clrF X i j a = X a := by rw [clrF, up_n h4, clrW, if_neg h5]
theorem clrF_5 {i j k : Nat} (hk : k < 8) : clrF X i j (5, i, j) k = 0 := by
  rw [clrF, up_n (by simp)]
  simp [clrW, hk]
theorem cntN_0 {p : Nat → Bool} : ∀ {n : Nat}, (∀ m, m < n → p m = false) → cntN p n = 0
  | 0, _ => rfl
  | n + 1, h => by
    unfold cntN
    rw [cntN_0 (fun m hm => h m (by omega)), h n (by omega)]
    rfl
/-- what class and reference hold of the list, after k of its cells -/
theorem told_k (hR : Rel T X M) (hs : s < 8) {q : Nat} : ∀ k, k ≤ 16 → q + k < 128 → (bR (rlN X s q k) (mls M s q k) 6 136 8 0 ∧ szR (rlN X s q k) 8 0 k) ∧ (∀ a, a ≠ (4, 8, 0) → a ≠ (5, 8, 0) → rlN X s q k a = X a) ∧ (∀ u, u < 34816 → mls M s q k (15, 6, 0) u = M (15, 6, 0) u)
  | 0, _, _ => by
    have hz : ∀ k, k < 8 → rlN X s q 0 (5, 8, 0) k = 0 := fun k hk => clrF_5 hk
    refine ⟨⟨fun t ht => ?_, ?_, ?_⟩, fun a h4 h5 => clrF_n h4 h5, fun u hu => ?_⟩
    · rw [tg_zero hz ht]
      exact zr_at (by omega)
    · rw [cntN_0 (fun m hm => tg_zero hz hm)]
      show clrF X 8 0 (4, 8, 0) 1 = _
      rw [clrF, up_s]
      rfl
    · rw [cntN_0 (fun m hm => tg_zero hz hm)]
      exact Nat.le_refl 0
    · exact zr_out (by omega)
  | k + 1, hk, hqk => by
    obtain ⟨⟨h1, h2⟩, h3, h4⟩ := told_k hR hs (q := q) k (by omega) (by omega)
    have hm := hR.1 s hs (q + (k + 1)) (by omega)
    rw [show 128 * s + (q + (k + 1)) = 128 * s + q + (k + 1) by omega] at hm
    show (bR (addF (rlN X s q k) 8 0 (X (3, s, 0) (q + (k + 1)))) (mls M s q (k + 1)) 6 136 8 0 ∧ szR (addF (rlN X s q k) 8 0 (X (3, s, 0) (q + (k + 1)))) 8 0 (k + 1)) ∧ (∀ a, a ≠ (4, 8, 0) → a ≠ (5, 8, 0) → addF (rlN X s q k) 8 0 (X (3, s, 0) (q + (k + 1))) a = X a) ∧ _
    unfold mls
    rw [hm]
    by_cases ht : inR (X (3, s, 0) (q + (k + 1))) 256 = true
    · rw [if_pos ht]
      obtain ⟨n, hn, hv⟩ := inR_t (N := 256) (by decide) ht
      rw [hv, nI_clamp (by omega)]
      refine ⟨?_, fun a q4 q5 => by rw [addF_n q4 q5]; exact h3 a q4 q5, fun u hu => by rw [up_k (by omega)]; exact h4 u hu⟩
      rcases addF_cases (X := rlN X s q k) (i := 8) (j := 0) hn with ⟨e1, e2⟩ | ⟨e1, e2⟩
      · rw [e2, up_id (h1.o hn e1)]
        exact ⟨h1, h2.1, by have := h2.2; omega⟩
      · rw [e2]
        refine ⟨h1.add hn, ?_, ?_⟩
        · rw [cnt_add hn e1, addD_4, h2.1, nI_1]
        · rw [cnt_add hn e1]
          have := h2.2
          omega
    · have hf : inR (X (3, s, 0) (q + (k + 1))) 256 = false := by simpa using ht
      rw [if_neg ht, addF_out hf]
      exact ⟨⟨h1, h2.1, by have := h2.2; omega⟩, h3, h4⟩
theorem told_rel (hR : Rel T X M) (hs : s < 8) {q w : Nat} (hw : w ≤ 16) (hqw : q + w < 128) : Rel T (rlN X s q w) (mls M s q w) := by
  obtain ⟨⟨h1, h2⟩, h3, h4⟩ := told_k hR hs w hw hqw
  exact hR.told h3 (fun a ha => mls_o ha) h4 (fun u q1 q2 => bR_isB h1 (by omega) (by omega))
theorem told_bad (hR : Rel T X M) : Rel T X (zr M (15, 6, 0) 34816 256) := hR.told (fun _ _ _ => rfl) (fun a ha => zr_o ha) (fun u hu => zr_out (by omega)) (fun u h1 h2 => by rw [zr_at (by omega)]; exact Or.inl rfl)
theorem fx_rlN {q : Nat} : ∀ {k : Nat}, FX X (rlN X s q k) := fun {k} a ha => rlN_o (by omega) (by omega)
theorem fm_mls {q k : Nat} : FM M (mls M s q k) := fun a ha => mls_o (fun e => by rw [e] at ha; exact absurd ha (by decide))
/-! a slot's label becomes another one -/
theorem szR.copy {i j i2 j2 mx : Nat} (h : szR X i2 j2 mx) : szR (cpyF X i j i2 j2) i j mx := by
  have e : cntN (tg (cpyF X i j i2 j2 (5, i, j))) 256 = cntN (tg (X (5, i2, j2))) 256 := cntN_cg (fun t ht => tg_cpy ht)
  unfold szR
  rw [e, cpyF, up_s]
  exact h
theorem Rel.labCopy (h : Rel T X M) (hs : s < 8) {l i2 j2 : Nat} (hb : bR X M 6 l i2 j2) (hz : szR X i2 j2 16) : Rel T (cpyF X s 0 i2 j2) (lcp M l s 256) := h.lab_gen hs (fun a h4 h5 => cpyF_n h4 h5) (fun a ha => lcp_o ha) (fun u hu => lcp_out hu) hb.copy hz.copy
theorem relC_eq (hR : Rel T X M) (hs : s < 8) (hb : bR X M 6 136 8 0) : mchC M s = relC X s 8 0 := by
  have hl := (hR.2.2.1 s hs).1
  have hp := (hR.2.2.2.1 s hs 0 (by decide)).1
  have hm := (hR.2.2.2.1 s hs 1 (by decide)).1
  rw [Bool.eq_iff_iff, relC, Bool.and_eq_true, subE_iff, subE_iff]
  show allN (mchP M s) 256 = true ↔ _
  rw [allN_iff]
  have key : ∀ t, t < 256 → (mchP M s t = true ↔ (tg (X (5, 8, 0)) t = true → (tg (X (5, s, 0)) t || tg (X (5, s, 1)) t) = true) ∧ (tg (X (5, s, 0)) t = true → (tg (X (5, 8, 0)) t || tg (X (5, s, 2)) t) = true)) := by
    intro t ht
    have e1 := hb t ht
    rw [show 256 * 136 + t = 34816 + t by omega] at e1
    rw [mchP, hl t ht, e1, hp.cp ht, hm.cp ht]
    cases tg (X (5, 8, 0)) t <;> cases tg (X (5, s, 0)) t <;> cases h1 : tg (X (5, s, 1 + 0)) t <;> cases h2 : tg (X (5, s, 1 + 1)) t <;> simp_all [bI]
  constructor
  · intro H
    exact ⟨fun t ht => ((key t ht).mp (H t ht)).1, fun t ht => ((key t ht).mp (H t ht)).2⟩
  · rintro ⟨H1, H2⟩ t ht
    exact (key t ht).mpr ⟨H1 t ht, H2 t ht⟩
/-! the list itself -/
theorem rl_eq (hR : Rel T X M) (hs : s < 8) (a : Int32) : mlOK M s a ↔ rlOK X s a := by
  constructor
  · rintro ⟨q, w, h1, h2, h3, h4, h5⟩
    exact ⟨q, w, h1, h2, by rw [← hR.1 s hs q h1]; exact h3, h4, h5⟩
  · rintro ⟨q, w, h1, h2, h3, h4, h5⟩
    exact ⟨q, w, h1, h2, by rw [hR.1 s hs q h1]; exact h3, h4, h5⟩
def SysSim (K : EK) (d : Nat) (X : DT) (s : Nat) (x : Int32) (T : Nat × Nat) : Prop := ∃ X', CF K mX5_systemCall (d + 5) [rR (0, 0, 0), rR (2, s, 0), rI x] X none X' ∧ FX X X' ∧ ∀ M, Rel T X M → ∃ M', CF K mX6_call (d + 5) [rR (14, 0, 0), rI (nI s), rI x] M none M' ∧ FM M M' ∧ Rel T X' M'
theorem Rel.trap (h : Rel T X M) (hs : s < 8) (n : Int32) : Rel T (stopF X s n) (mTrap M s n) := (h.int (k := 4) (by decide) (by decide) hs 3).int (k := 5) (by decide) (by decide) hs n
theorem fx_stop {n : Int32} (h : FX X X') : FX X (stopF X' s n) := fx_u (fx_u h (leb rfl)) (leb rfl)
theorem fm_trap {n : Int32} (h : FM M M') : FM M (mTrap M' s n) := fm_u (fm_u h (leb rfl)) (leb rfl)
theorem Rel.setA (h : Rel T X M) (hs : s < 8) (r : Int32) : Rel T (up X (2, s, 0) 2 r) (up M (15, 1, 0) s r) := h.int (k := 2) (by decide) (by decide) hs r
theorem y_0 (K : EK) (d : Nat) (hs : s < 8) (h0 : ∃ M, Rel T X M) : SysSim K d X s 0 T := by
  obtain ⟨M0, hR0⟩ := h0
  obtain ⟨c, hc, hcx⟩ := (hR0.2.1 s hs).2.2.2.2.2
  have z1 : szR X s 1 40 := (hR0.2.2.2.1 s hs 0 (by decide)).2
  have z2 : szR X s 2 40 := (hR0.2.2.2.1 s hs 1 (by decide)).2
  have k1 := cntN_le (tg (X (5, s, 1))) 256
  have k2 := cntN_le (tg (X (5, s, 2))) 256
  by_cases h : c < 32 ∧ cntN (tg (X (5, s, 1))) 256 < 40 ∧ cntN (tg (X (5, s, 2))) 256 < 40
  · have hcx' : CF K mX2_newTag (d + 4) [rR (2, s, 0)] X (some (rI (nI (32 * s + c)))) (ntF X s) := (c_newTag K (d + 2) hs X (by rw [hcx]; exact nI_ge (b := 32) h.1 (by decide)) (by rw [z1.1]; exact nI_ge (b := 40) h.2.1 (by decide)) (by rw [z2.1]; exact nI_ge (b := 40) h.2.2 (by decide))).to (by rw [hcx, show (32 : Int32) = nI 32 from rfl, pk_mul, nI_add]) rfl
    refine ⟨_, c_sys0 K (d + 4) hs X hcx', fx_u (fx_addF (fx_addF (fx_u fx_r (leb rfl)))) (leb rfl), fun M hR => ?_⟩
    have hcm : M (15, 5, 0) s = nI c := by rw [(hR.2.1 s hs).2.2.2.2.1]; exact hcx
    have n1 : cnF M (8 * 0 + s) < 40 := by rw [(hR.2.2.2.1 s hs 0 (by decide)).1.cn]; exact h.2.1
    have n2 : cnF M (8 * 1 + s) < 40 := by rw [(hR.2.2.2.1 s hs 1 (by decide)).1.cn]; exact h.2.2
    refine ⟨_, m_call0 K (d + 4) hs M (m_newTag K (d + 2) hs M hcm h.1 n1 n2), fm_u (fm_u (fm_u (fm_u fm_r (leb rfl)) (leb rfl)) (leb rfl)) (leb rfl), Rel.setA ?_ hs _⟩
    have r1 := hR.ctr hs (c := c + 1) (by omega)
    have e5 : ∀ j, up X (2, s, 0) 6 (nI (c + 1)) (5, s, j) = X (5, s, j) := fun j => up_n (by simp)
    have r2 := r1.capPut hs (q := 0) (n := 32 * s + c) (by decide) (by omega) (by rw [e5]; exact h.2.1)
    have r3 := r2.capPut hs (q := 1) (n := 32 * s + c) (by decide) (by omega) (by rw [addF_n (by simp) (by simp), e5]; exact h.2.2)
    have et : ntF X s = addF (addF (up X (2, s, 0) 6 (nI (c + 1))) s (1 + 0) (nI (32 * s + c))) s (1 + 1) (nI (32 * s + c)) := by
      rw [ntF, hcx, nI_1, show (32 : Int32) = nI 32 from rfl, pk_mul, nI_add]
    rw [et]
    exact r3
  · have hor : 32 ≤ X (2, s, 0) 6 ∨ 40 ≤ X (4, s, 1) 1 ∨ 40 ≤ X (4, s, 2) 1 := by
      rw [hcx, z1.1, z2.1]
      by_cases e1 : c < 32
      · by_cases e2 : cntN (tg (X (5, s, 1))) 256 < 40
        · exact Or.inr (Or.inr (nI_le (a := 40) (Nat.le_of_not_lt (fun e3 => h ⟨e1, e2, e3⟩)) (by omega)))
        · exact Or.inr (Or.inl (nI_le (a := 40) (Nat.le_of_not_lt e2) (by omega)))
      · exact Or.inl (nI_le (a := 32) (Nat.le_of_not_lt e1) (by omega))
    refine ⟨_, c_sys0 K (d + 4) hs X (c_newTagN K (d + 2) hs X hor), fx_u fx_r (leb rfl), fun M hR => ?_⟩
    have hcm : M (15, 5, 0) s = nI c := by rw [(hR.2.1 s hs).2.2.2.2.1]; exact hcx
    have n1 : cnF M (8 * 0 + s) = _ := (hR.2.2.2.1 s hs 0 (by decide)).1.cn
    have n2 : cnF M (8 * 1 + s) = _ := (hR.2.2.2.1 s hs 1 (by decide)).1.cn
    refine ⟨_, m_call0 K (d + 4) hs M (m_newTagN K (d + 2) hs M hcm (by omega) ?_), fm_u fm_r (leb rfl), hR.setA hs _⟩
    rw [n1, n2]
    by_cases e1 : c < 32
    · by_cases e2 : cntN (tg (X (5, s, 1))) 256 < 40
      · exact Or.inr (Or.inr (Nat.le_of_not_lt (fun e3 => h ⟨e1, e2, e3⟩)))
      · exact Or.inr (Or.inl (Nat.le_of_not_lt e2))
    · exact Or.inl (by omega)
theorem y_1 (K : EK) (d : Nat) (hs : s < 8) (h0 : ∃ M, Rel T X M) : SysSim K d X s 1 T := by
  obtain ⟨M0, hR0⟩ := h0
  by_cases h : rlOK X s (X (3, s, 0) 120)
  · obtain ⟨q, w, hq, ha, hv, hw, hqw⟩ := h
    have hl : CF K mX5_readList (d + 4) [rR (0, 0, 0), rR (2, s, 0), rI (X (3, s, 0) 120)] X (some (rI 1)) (rlN X s q w) := by rw [ha]; exact c_readList K (d + 2) hs X hq hw hqw hv
    have hml : ∀ M, Rel T X M → CF K mX6_lists (d + 4) [rR (14, 0, 0), rI (nI s), rI (M (15, 0, 0) (128 * s + 120))] M (some (rI 1)) (mls M s q w) := fun M hR => by rw [hR.1 s hs 120 (by decide), ha]; exact m_lists K (d + 2) hs hq hw hqw M (by rw [hR.1 s hs q hq]; exact hv)
    have hcr := c_relabel K (d + 3) (i := s) hs ok4L (rlN X s q w)
    refine ⟨_, c_sys1 K (d + 4) hs X hl hcr, ?_, fun M hR => ?_⟩
    · refine fx_u ?_ (leb rfl)
      split
      · exact fx_cpy fx_rlN
      · exact fx_rlN
    · have hR1 := told_rel hR hs hw hqw
      have hb := (told_k hR hs w hw hqw).1
      have eC := relC_eq hR1 hs hb.1
      have hmc := m_changes K (d + 3) hs (mls M s q w) hR1.2.2.2.2.2.2.2.2
      rw [eC] at hmc
      refine ⟨_, m_call1 K (d + 4) hs M (hml M hR) hmc, ?_, Rel.setA ?_ hs _⟩
      · refine fm_u ?_ (leb rfl)
        split
        · exact fm_lcp fm_mls
        · exact fm_mls
      · split
        · exact hR1.labCopy hs hb.1 ⟨hb.2.1, by have := hb.2.2; omega⟩
        · exact hR1
  · refine ⟨_, c_sys1N K (d + 4) hs X (c_readListN K (d + 2) hs X _ h), fx_stop fx_r, fun M hR => ?_⟩
    have hml : CF K mX6_lists (d + 4) [rR (14, 0, 0), rI (nI s), rI (M (15, 0, 0) (128 * s + 120))] M (some (rI 0)) (mTrap (zr M (15, 6, 0) 34816 256) s 2) := m_listsN K (d + 2) hs M _ (by rw [hR.1 s hs 120 (by decide), rl_eq hR hs]; exact h)
    exact ⟨_, m_call1N K (d + 4) hs M hml, fm_trap (fm_zr (leb rfl) fm_r), (told_bad hR).trap hs 2⟩
end SYS
