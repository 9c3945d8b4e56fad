section SYS3
variable {X X' M M' E : DT} {T : Nat × Nat} {s : Nat}
theorem Rel.take (hs : s < 8) {q y : Nat} (hR : Rel T (qst X s q (y + 1)) E) (hq : qR (qst X s q (y + 1)) E s q (y + 1)) : Rel T (rcv1 X s q ((q + 1) % 8) y) (mtk E s y) := by
  obtain ⟨f1, f2, f3, f4, f5⟩ := hq.2.2.2.2.2 0 (by omega)
  rw [show (q + 0) % 8 = q by have := hq.1; omega, Nat.add_zero] at f2 f3
  rw [qst_n (by simp)] at f2 f3
  have r1 := hR.mem hs (p := 120) (by decide) (X (8, s, q) 2)
  have r2 := r1.mem hs (p := 121) (by decide) (X (8, s, q) 1)
  have hq2 : qR (up (up (qst X s q (y + 1)) (3, s, 0) 120 (X (8, s, q) 2)) (3, s, 0) 121 (X (8, s, q) 1)) (up (up E (15, 0, 0) (128 * s + 120) (X (8, s, q) 2)) (15, 0, 0) (128 * s + 121) (X (8, s, q) 1)) s q (y + 1) := hq.cg hs (fun k => by rw [up_n (by simp), up_n (by simp)]) (fun q => by rw [up_n (by simp), up_n (by simp)]) (fun q _ => by rw [up_n (by simp), up_n (by simp)]) (by rw [up_n (by simp), up_n (by simp)]) (fun k _ => by rw [up_n (by simp), up_n (by simp)]) (fun k _ => by rw [up_n (by simp), up_n (by simp)]) (fun k _ => by rw [up_n (by simp), up_n (by simp)]) (fun k t _ _ => by rw [up_n (by simp), up_n (by simp)])
  have r3 := (r2.drop hs hq2).1
  rw [qst_up (by simp), qst_up (by simp), show qst (qst X s q (y + 1)) s ((q + 1) % 8) y = qst X s ((q + 1) % 8) y from qst_s] at r3
  rw [rcv1, mtk, f2, f3]
  exact r3
theorem fx_rcv {q p z : Nat} : FX X (rcv1 X s q p z) := fx_u (fx_u (fx_qst fx_r) (leb rfl)) (leb rfl)
theorem fm_mtk {y : Nat} (h : FM M E) : FM M (mtk E s y) := fm_drop (fm_u (fm_u h (leb rfl)) (leb rfl))
/-- a capability comes, on both sides -/
theorem cap_comes (h : Rel T X M) (hs : s < 8) {u n : Nat} (hu : u < 2) (hn : n < 256) : (cnF M (8 * u + s) < 40 → Rel T (chgD X s (1 + u) (nI n) 1 40) (up M (15, 7, 0) (256 * (8 * u + s) + n) 1)) ∧ (40 ≤ cnF M (8 * u + s) → Rel T (chgD X s (1 + u) (nI n) 1 40) M) := by
  have hb := (h.2.2.2.1 s hs u hu).1
  have hz := (h.2.2.2.1 s hs u hu).2
  rw [hb.cn]
  rcases chg_cases (n := n) (b := 1) hz (by decide) hn (Or.inr rfl) with ⟨e1, e2, e3, e4, e5⟩ | ⟨e1, e2, e3, e4, e5⟩ | ⟨e1, e2, e4, e5⟩ | ⟨e1, e2, e4, e5⟩ | ⟨e1, e2, e4, e5⟩
  · rw [show chgD X s (1 + u) (nI n) 1 40 = X from e5]
    exact ⟨fun q => by omega, fun _ => h⟩
  · rw [show chgD X s (1 + u) (nI n) 1 40 = _ from e5]
    exact ⟨fun _ => h.capAdd hs hu hn e2 e3, fun q => by omega⟩
  · rw [show chgD X s (1 + u) (nI n) 1 40 = X from e5]
    exact ⟨fun _ => by rw [up_id (hb.o hn e2)]; exact h, fun _ => h⟩
  · exact absurd e1 (by decide)
  · exact absurd e1 (by decide)
theorem y_5 (K : EK) (d : Nat) (hs : s < 8) (h0 : ∃ M, Rel T X M) : SysSim K d X s 5 T := by
  obtain ⟨M0, hR0⟩ := h0
  obtain ⟨p, z, hq⟩ := hR0.2.2.2.2.2.1 s hs
  have hid : qst X s p z = X := qst_id hq.2.2.1 hq.2.2.2.1
  have sim : ∀ M, Rel T X M → _ := fun M hR => rcv_sim (X := X) (T := T) hs z p M (by rw [hid]; exact hR) (by rw [hid]; exact hR0.q hR hs hq)
  have hzM : ∀ M, Rel T X M → M (15, 10, 0) s = nI z := fun M hR => (hR0.q hR hs hq).2.2.2.2.1
  cases ht : (tk (tkc X s s 0) p z).1 with
  | none =>
    refine ⟨_, c_sys5 K (d + 4) hs X (c_receive0 K (d + 1) hs X hq.1 hq.2.1 hq.2.2.1 hq.2.2.2.1 ht), fx_u (fx_qst fx_r) (leb rfl), fun M hR => ?_⟩
    obtain ⟨g1, g2⟩ := (sim M hR).1 ht
    exact ⟨_, m_call5 K (d + 4) hs M (m_receives0 K (d + 2) hs M hq.2.1 (hzM M hR) hR.2.2.2.2.2.2.2.2 g1), fm_u (fm_mrd z M) (leb rfl), g2.setA hs _⟩
  | some q =>
    have hq8 : q < 8 := (tk_lt (tkc X s s 0) z p hq.1).2.2 q ht
    have fr : ∀ M, Rel T X M → ∃ y, (mrd s z M).2 = y + 1 ∧ (tk (tkc X s s 0) p z).2.2 = y ∧ (tk (tkc X s s 0) p z).2.1 = (q + 1) % 8 ∧ Rel T (rcv1 X s q ((q + 1) % 8) y) (mtk (mrd s z M).1 s y) ∧ (mrd s z M).1 (15, 13, 0) (8 * s) = X (8, s, q) 3 ∧ (mrd s z M).1 (15, 11, 0) (8 * s) = X (8, s, q) 2 ∧ (X (8, s, q) 3 = (-1) ∨ ∃ u v, u < 2 ∧ v < 256 ∧ X (8, s, q) 3 = nI u ∧ X (8, s, q) 2 = nI v) := by
      intro M hR
      obtain ⟨y, g1, g2, g3, g4, g5⟩ := (sim M hR).2 q ht
      obtain ⟨f1, f2, f3, f4, f5⟩ := g5.2.2.2.2.2 0 (by omega)
      rw [show (q + 0) % 8 = q by omega, Nat.add_zero] at f2 f4
      rw [show (q + 0) % 8 = q by omega] at f5
      rw [qst_n (by simp)] at f2 f4 f5
      exact ⟨y, g1, g2, g3, Rel.take hs g4 g5, f4, f2, f5⟩
    obtain ⟨y0, -, ey, ep, -, -, -, hkd⟩ := fr M0 hR0
    have frm : ∀ M, Rel T X M → (mrd s z M).2 = y0 + 1 ∧ Rel T (rcv1 X s q (tk (tkc X s s 0) p z).2.1 (tk (tkc X s s 0) p z).2.2) (mtk (mrd s z M).1 s y0) ∧ (mrd s z M).1 (15, 13, 0) (8 * s) = X (8, s, q) 3 ∧ (mrd s z M).1 (15, 11, 0) (8 * s) = X (8, s, q) 2 := by
      intro M hR
      obtain ⟨y, g1, g2, g3, g4, g5, g6, -⟩ := fr M hR
      have : y = y0 := g2.symm.trans ey
      subst this
      rw [g2, g3]
      exact ⟨g1, g4, g5, g6⟩
    rcases hkd with hk | ⟨u, v, hu, hv, hk, hvv⟩
    · refine ⟨_, c_sys5 K (d + 4) hs X (c_receive1 K (d + 1) hs X hq.1 hq.2.1 hq.2.2.1 hq.2.2.2.1 ht hk), fx_u fx_rcv (leb rfl), fun M hR => ?_⟩
      obtain ⟨g1, g2, g3, g4⟩ := frm M hR
      exact ⟨_, m_call5 K (d + 4) hs M (m_receives1 K (d + 2) hs M hq.2.1 (hzM M hR) hR.2.2.2.2.2.2.2.2 g1 (by rw [g3]; exact hk)), fm_u (fm_mtk (fm_mrd z M)) (leb rfl), g2.setA hs _⟩
    · have hcx : CF K mX2_receive (d + 4) [rR (2, s, 0)] X (some (rI 2)) (chgD (rcv1 X s q (tk (tkc X s s 0) p z).2.1 (tk (tkc X s s 0) p z).2.2) s (1 + u) (nI v) 1 40) := by
        rw [← hvv]
        rcases (show u = 0 ∨ u = 1 by omega) with rfl | rfl
        · exact c_receive2 K (d + 1) hs X hq.1 hq.2.1 hq.2.2.1 hq.2.2.2.1 ht hk
        · exact c_receive3 K (d + 1) hs X hq.1 hq.2.1 hq.2.2.1 hq.2.2.2.1 ht (by rw [hk]; decide) (by rw [hk]; decide)
      refine ⟨_, c_sys5 K (d + 4) hs X hcx, fx_u (fx_chg fx_rcv) (leb rfl), fun M hR => ?_⟩
      obtain ⟨g1, g2, g3, g4⟩ := frm M hR
      have cc := cap_comes g2 hs hu hv
      by_cases hc : cnF (mtk (mrd s z M).1 s y0) (8 * u + s) < 40
      · exact ⟨_, m_call5 K (d + 4) hs M (m_receives2 K (d + 2) hs M hq.2.1 (hzM M hR) hR.2.2.2.2.2.2.2.2 g1 hu hv (by rw [g3]; exact hk) (by rw [g4]; exact hvv) hc), fm_u (fm_u (fm_mtk (fm_mrd z M)) (leb rfl)) (leb rfl), (cc.1 hc).setA hs _⟩
      · exact ⟨_, m_call5 K (d + 4) hs M (m_receives3 K (d + 2) hs M hq.2.1 (hzM M hR) hR.2.2.2.2.2.2.2.2 g1 hu hv (by rw [g3]; exact hk) (by rw [g4]; exact hvv) (Nat.le_of_not_lt hc)), fm_u (fm_mtk (fm_mrd z M)) (leb rfl), (cc.2 (Nat.le_of_not_lt hc)).setA hs _⟩
/-! CREATE -/
theorem lf_eq (hR : Rel T X M) (hs : s < 8) : ∀ (n k : Nat), k + n = 8 → (lfr X s n k = none → mlfr M s n k = 8) ∧ ∀ e, lfr X s n k = some e → mlfr M s n k = e ∧ X (12, s, e) 2 = 0
  | 0, k, hk => ⟨fun _ => by unfold mlfr; omega, fun e h => nomatch h⟩
  | n + 1, k, hk => by
    have h := (hR.2.2.2.2.1 (8 * s + k) (by omega)).1
    rw [show (8 * s + k) / 8 = s by omega, show (8 * s + k) % 8 = k by omega] at h
    unfold lfr mlfr
    rw [h]
    by_cases e : X (12, s, k) 2 = 0
    · rw [if_pos e, if_pos e]
      refine ⟨(fun q => nomatch q), fun e' q => ?_⟩
      cases q
      exact ⟨rfl, e⟩
    · rw [if_neg e, if_neg e]
      exact lf_eq hR hs n (k + 1) (by omega)
theorem Rel.create (h : Rel T X M) {n : Nat} (hn : n < 64) (h0 : X (12, n / 8, n % 8) 2 = 0) (hb : bR X M 6 136 8 0) (hz : szR X 8 0 16) : Rel T (cpyF (up X (12, n / 8, n % 8) 2 1) (n / 8) (11 + n % 8) 8 0) (mcrF M n) := by
  obtain ⟨a, b, c, d, g⟩ := h.2.2.2.2.1 n hn
  have hb1 : bR (up X (12, n / 8, n % 8) 2 1) (up M (15, 8, 0) n 1) 6 136 8 0 := hb.cg (up_n (by simp)) (fun t _ => by rw [up_n (by simp)])
  have hz1 : szR (up X (12, n / 8, n % 8) 2 1) 8 0 16 := hz.cg (up_n (by simp)) (by rw [up_n (by simp)])
  have hbc : bR (cpyF (up X (12, n / 8, n % 8) 2 1) (n / 8) (11 + n % 8) 8 0) (mcrF M n) 6 (8 + n) (n / 8) (11 + n % 8) := by
    refine (hb1.copy (m := 8 + n)).cg rfl (fun t _ => ?_)
    rw [mcrF, zr_o (by simp)]
  refine h.fil_gen hn (fun a h4 h5 h12 _ => by rw [cpyF_n h4 h5, up_n h12]) (fun a h6 h8 h9 => by rw [mcrF, zr_o h9, lcp_o h6, up_n h8]) (fun u hu => by rw [mcrF, zr_o (by simp), lcp_o (by simp), up_k hu]) (fun u hu => by rw [mcrF, zr_out hu, lcp_o (by simp), up_n (by simp)]) (fun u hu => by rw [mcrF, zr_o (by simp), lcp_out hu, up_n (by simp)]) (fun u q1 q2 => bR_isB hbc q1 q2) ?_
  refine ⟨by rw [mcrF, zr_o (by simp), lcp_o (by simp), up_s, cpyF_n (by simp) (by simp), up_s], hz1.copy, fun _ => ⟨hbc, fun e he => ?_⟩, fun hq => absurd (by rw [cpyF_n (by simp) (by simp), up_s] at hq; exact hq) (by decide), by rw [cpyF_n (by simp) (by simp), up_s]; exact Or.inr rfl⟩
  rw [mcrF, zr_at (by omega), cpyF_n (by simp) (by simp), up_n (by simp), (d h0).2 e he]
theorem fm_mcr {f : Nat} (h : FM M M') : FM M (mcrF M' f) := fm_zr (leb rfl) (fm_lcp (fm_u h (leb rfl)))
theorem y_6 (K : EK) (d : Nat) (hs : s < 8) (h0 : ∃ M, Rel T X M) : SysSim K d X s 6 T := by
  obtain ⟨M0, hR0⟩ := h0
  by_cases h : rlOK X s (X (3, s, 0) 120)
  · obtain ⟨q, w, hq, ha, hv, hw, hqw⟩ := h
    have hl : CF K mX5_readList (d + 4) [rR (0, 0, 0), rR (2, s, 0), rI (X (3, s, 0) 120)] X (some (rI 1)) (rlN X s q w) := by rw [ha]; exact c_readList K (d + 2) hs X hq hw hqw hv
    have hml : ∀ M, Rel T X M → CF K mX6_lists (d + 4) [rR (14, 0, 0), rI (nI s), rI (M (15, 0, 0) (128 * s + 120))] M (some (rI 1)) (mls M s q w) := fun M hR => by rw [hR.1 s hs 120 (by decide), ha]; exact m_lists K (d + 2) hs hq hw hqw M (by rw [hR.1 s hs q hq]; exact hv)
    have es : ∀ M, Rel T X M → subM (mls M s q w) s 136 = subB (rlN X s q w (5, s, 0)) (rlN X s q w (5, 8, 0)) := fun M hR => subM_eq ((told_rel hR hs hw hqw).2.2.1 s hs).1 (told_k hR hs w hw hqw).1.1
    cases hsb : subB (rlN X s q w (5, s, 0)) (rlN X s q w (5, 8, 0)) with
    | false =>
      refine ⟨_, c_sys6 K (d + 4) hs X hl (c_createFileN K (d + 2) hs ok4L _ hsb), fx_u fx_rlN (leb rfl), fun M hR => ?_⟩
      exact ⟨_, m_call6 K (d + 4) hs M (hml M hR) (m_createsN K (d + 3) hs _ (Or.inr (by rw [es M hR]; exact hsb))), fm_u fm_mls (leb rfl), (told_rel hR hs hw hqw).setA hs _⟩
    | true =>
      have hcr := c_createFile K (d + 2) hs ok4L _ hsb
      cases hlf : lfr (rlN X s q w) s 8 0 with
      | none =>
        rw [hlf] at hcr
        refine ⟨_, c_sys6 K (d + 4) hs X hl hcr, fx_u fx_rlN (leb rfl), fun M hR => ?_⟩
        have hR1 := told_rel hR hs hw hqw
        exact ⟨_, m_call6 K (d + 4) hs M (hml M hR) (m_createsN K (d + 3) hs _ (Or.inl ((lf_eq hR1 hs 8 0 rfl).1 hlf))), fm_u fm_mls (leb rfl), hR1.setA hs _⟩
      | some e =>
        rw [hlf] at hcr
        have he : e < 8 := by have := lfr_lt hlf; omega
        refine ⟨_, c_sys6 K (d + 4) hs X hl (hcr.to (show _ = some (rI (nI (8 * s + e))) by show some (rI (8 * nI s + nI e)) = _; rw [show (8 : Int32) = nI 8 from rfl, pk_mul, nI_add]) rfl), fx_u (fx_cpy (fx_u fx_rlN (leb rfl))) (leb rfl), fun M hR => ?_⟩
        have hR1 := told_rel hR hs hw hqw
        have hb := (told_k hR hs w hw hqw).1
        obtain ⟨g1, g2⟩ := (lf_eq hR1 hs 8 0 rfl).2 e hlf
        have e1 : (8 * s + e) / 8 = s := by omega
        have e2 : (8 * s + e) % 8 = e := by omega
        have hc := hR1.create (n := 8 * s + e) (by omega) (by rw [e1, e2]; exact g2) hb.1 ⟨hb.2.1, by have := hb.2.2; omega⟩
        rw [e1, e2] at hc
        exact ⟨_, m_call6 K (d + 4) hs M (hml M hR) (m_creates K (d + 3) hs he _ g1 (by rw [es M hR]; exact hsb) hR1.2.2.2.2.2.2.2.2), fm_u (fm_mcr fm_mls) (leb rfl), Rel.setA hc hs _⟩
  · refine ⟨_, c_sys6N K (d + 4) hs X (c_readListN K (d + 2) hs X _ h), fx_stop fx_r, fun M hR => ?_⟩
    have hml : CF K mX6_lists (d + 4) [rR (14, 0, 0), rI (nI s), rI (M (15, 0, 0) (128 * s + 120))] M (some (rI 0)) (mTrap (zr M (15, 6, 0) 34816 256) s 2) := m_listsN K (d + 2) hs M _ (by rw [hR.1 s hs 120 (by decide), rl_eq hR hs]; exact h)
    exact ⟨_, m_call6N K (d + 4) hs M hml, fm_trap (fm_zr (leb rfl) fm_r), (told_bad hR).trap hs 2⟩
end SYS3
