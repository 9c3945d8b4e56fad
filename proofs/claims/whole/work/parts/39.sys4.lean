section SYS4
variable {X X' M M' E : DT} {T : Nat × Nat} {s : Nat}
theorem y_7 (K : EK) (d : Nat) (hs : s < 8) : SysSim K d X s 7 T := by
  rcases fc_cases (X := X) (X (3, s, 0) 120) (X (3, s, 0) 121) with h | ⟨n, e, hn, he, h1, h2, h⟩
  · refine ⟨_, c_sys7 K (d + 4) hs X (c_readN K (d + 2) hs X _ _ h), fx_u fx_r (leb rfl), fun M hR => ?_⟩
    exact ⟨_, m_call7 K (d + 4) hs M (by rw [hR.1 s hs 120 (by decide), hR.1 s hs 121 (by decide)]; exact m_readsN K (d + 3) hs M _ _ (by rw [fc_eq hR]; exact h)), fm_u fm_r (leb rfl), hR.setA hs _⟩
  · have es : ∀ M, Rel T X M → subM M (8 + n) s = subB (X (5, n / 8, 11 + n % 8)) (X (5, s, 0)) := fun M hR => subM_eq ((hR.2.2.2.2.1 n hn).2.2.1 (thr_ne h)).1 (hR.2.2.1 s hs).1
    cases hsb : subB (X (5, n / 8, 11 + n % 8)) (X (5, s, 0)) with
    | false =>
      refine ⟨_, c_sys7 K (d + 4) hs X (by rw [h1, h2]; exact c_read0 K (d + 2) hs X hn he h hsb), fx_u fx_r (leb rfl), fun M hR => ?_⟩
      exact ⟨_, m_call7 K (d + 4) hs M (by rw [hR.1 s hs 120 (by decide), hR.1 s hs 121 (by decide), h1, h2]; exact m_reads0 K (d + 3) hs hn he M (by rw [thr_eq hR hn]; exact h) (by rw [es M hR]; exact hsb)), fm_u fm_r (leb rfl), hR.setA hs _⟩
    | true =>
      refine ⟨_, c_sys7 K (d + 4) hs X (by rw [h1, h2]; exact c_read1 K (d + 2) hs X hn he h hsb), fx_u (fx_u fx_r (leb rfl)) (leb rfl), fun M hR => ?_⟩
      have hv := ((hR.2.2.2.2.1 n hn).2.2.1 (thr_ne h)).2 e he
      exact ⟨_, m_call7 K (d + 4) hs M (by rw [hR.1 s hs 120 (by decide), hR.1 s hs 121 (by decide), h1, h2]; exact (m_reads1 K (d + 3) hs hn he M (by rw [thr_eq hR hn]; exact h) (by rw [es M hR]; exact hsb)).to rfl (by rw [hv])), fm_u (fm_u fm_r (leb rfl)) (leb rfl), (hR.mem hs (p := 120) (by decide) _).setA hs _⟩
theorem y_8 (K : EK) (d : Nat) (hs : s < 8) : SysSim K d X s 8 T := by
  rcases fc_cases (X := X) (X (3, s, 0) 120) (X (3, s, 0) 121) with h | ⟨n, e, hn, he, h1, h2, h⟩
  · refine ⟨_, c_sys8 K (d + 4) hs X (c_writeN K (d + 2) hs X _ _ _ h), fx_u fx_r (leb rfl), fun M hR => ?_⟩
    exact ⟨_, m_call8N K (d + 4) hs M (hR.1 s hs 120 (by decide)) (hR.1 s hs 121 (by decide)) (by rw [fc_eq hR]; exact h), fm_u fm_r (leb rfl), hR.setA hs _⟩
  · have es : ∀ M, Rel T X M → subM M s (8 + n) = subB (X (5, s, 0)) (X (5, n / 8, 11 + n % 8)) := fun M hR => subM_eq (hR.2.2.1 s hs).1 ((hR.2.2.2.2.1 n hn).2.2.1 (thr_ne h)).1
    cases hsb : subB (X (5, s, 0)) (X (5, n / 8, 11 + n % 8)) with
    | false =>
      refine ⟨_, c_sys8 K (d + 4) hs X (by rw [h1, h2]; exact c_write0 K (d + 2) hs X hn he h _ hsb), fx_u fx_r (leb rfl), fun M hR => ?_⟩
      exact ⟨_, m_call8a K (d + 4) hs M hn he (by rw [hR.1 s hs 120 (by decide)]; exact h1) (by rw [hR.1 s hs 121 (by decide)]; exact h2) (by rw [thr_eq hR hn]; exact h) (by rw [es M hR]; exact hsb), fm_u fm_r (leb rfl), hR.setA hs _⟩
    | true =>
      refine ⟨_, c_sys8 K (d + 4) hs X (by rw [h1, h2]; exact c_write1 K (d + 2) hs X hn he h _ hsb), fx_u (fx_u fx_r (leb rfl)) (leb rfl), fun M hR => ?_⟩
      exact ⟨_, (m_call8b K (d + 4) hs M hn he (by rw [hR.1 s hs 120 (by decide)]; exact h1) (by rw [hR.1 s hs 121 (by decide)]; exact h2) (by rw [thr_eq hR hn]; exact h) (by rw [es M hR]; exact hsb)).to rfl (by rw [hR.1 s hs 122 (by decide)]), fm_u (fm_u fm_r (leb rfl)) (leb rfl), (hR.fill hn he h _).setA hs _⟩
/-! SPAWN -/
theorem Rel.mcpy (h : Rel T X M) (hs : s < 8) {t e w : Nat} (ht : t < 8) (hst : t ≠ s) (hw : w ≤ 128) (hew : e + w ≤ 128) : Rel T (mcp X t s e w) (mmcp M t s e w) := by
  obtain ⟨h1, h2, h3, h4, h5, h6, h7, h8, h9⟩ := h
  refine ⟨fun s' hs' p' hp' => ?_, h2.cg (fun _ _ _ _ => by rw [mcp_o (by simp)]) (fun n _ _ => mmcp_o (by simp <;> omega)), h3.cg (fun _ _ => mcp_o (by simp)) (fun _ _ => by rw [mcp_o (by simp)]) (fun u _ => by rw [mmcp_o (by simp)]), h4.cg (fun _ _ _ _ => mcp_o (by simp)) (fun _ _ _ _ => by rw [mcp_o (by simp)]) (mmcp_o (by simp)), h5.cg (fun _ _ => by rw [mcp_o (by simp)]) (fun _ _ => mcp_o (by simp)) (fun _ _ _ _ => mcp_o (by simp)) (fun _ _ _ _ => by rw [mcp_o (by simp)]) (mmcp_o (by simp)) (mmcp_o (by simp)) (fun u _ _ => by rw [mmcp_o (by simp)]), h6.cg (fun _ => mcp_o (by simp)) (fun _ _ => mcp_o (by simp)) (fun _ _ _ _ => mcp_o (by simp)) (fun n _ _ => mmcp_o (by simp <;> omega)) (fun u _ _ => by rw [mmcp_o (by simp)]), h7.cg (fun s' => by rw [mcp_o (by simp)]) (fun _ => mcp_o (by simp)) (fun _ => mcp_o (by simp)) (fun n _ _ => mmcp_o (by simp <;> omega)), h8.cg (by rw [mcp_o (by simp)]) (by rw [mmcp_o (by simp)]), h9.cg (fun u _ => Or.inl (by rw [mmcp_o (by simp)]))⟩
  by_cases et : s' = t
  · subst et
    by_cases ep : p' < w
    · have q1 : 128 * s' ≤ 128 * s' + p' ∧ 128 * s' + p' < 128 * s' + w := by omega
      have q2 : 128 * s' + p' - 128 * s' = p' := by omega
      simp only [mcp, mmcp, if_true, q1, and_self, q2, ep]
      have := h1 s hs (e + p') (by omega)
      rw [show 128 * s + (e + p') = 128 * s + e + p' by omega] at this
      exact this
    · have q1 : ¬ (128 * s' ≤ 128 * s' + p' ∧ 128 * s' + p' < 128 * s' + w) := by omega
      simp only [mcp, mmcp, if_true, q1, if_false, ep]
      exact h1 s' hs' p' hp'
  · have q1 : ¬ (128 * t ≤ 128 * s' + p' ∧ 128 * s' + p' < 128 * t + w) := by omega
    rw [mcp_o (by simp [et])]
    simp only [mmcp, if_true, q1, if_false]
    exact h1 s' hs' p' hp'
theorem lcp_up {l m n : Nat} {v : Int32} : lcp (up M (15, 3, 0) n v) l m 256 = up (lcp M l m 256) (15, 3, 0) n v := by
  funext a k
  by_cases e : a = (15, 6, 0)
  · subst e
    rw [up_n (by simp)]
    simp only [lcp, if_true]
    rw [up_n (by simp)]
  · rw [lcp_o e, up_at, up_at, lcp_o e]
theorem Rel.spawn (h : Rel T X M) (hs : s < 8) {t e w : Nat} (ht : t < 8) (hst : t ≠ s) (hw : w ≤ 128) (hew : e + w ≤ 128) : Rel T (spF X s t e w) (mspF M s t e w) := by
  have r1 := h.mcpy hs ht hst hw hew
  have r2 := r1.labCopy ht (r1.2.2.1 s hs).1 (r1.2.2.1 s hs).2
  have r3 := r2.int (k := 4) (by decide) (by decide) ht 1
  rw [mspF, lcp_up]
  exact r3
theorem sp_eq (hR : Rel T X M) (hs : s < 8) (a b n : Int32) : mspOK M s a b n ↔ spOK X s a b n := by
  constructor
  · rintro ⟨t, w, e, h1, h2, h3, h4, h5, h6, h7, h8, h9, h10, h11⟩
    exact ⟨t, w, e, h1, h2, h3, h4, h5, h6, h7, h8, h9, by rw [← (hR.2.1 t h2).2.2.1]; exact h10, by rw [← subM_eq (hR.2.2.1 t h2).1 (hR.2.2.1 s hs).1]; exact h11⟩
  · rintro ⟨t, w, e, h1, h2, h3, h4, h5, h6, h7, h8, h9, h10, h11⟩
    exact ⟨t, w, e, h1, h2, h3, h4, h5, h6, h7, h8, h9, by rw [(hR.2.1 t h2).2.2.1]; exact h10, by rw [subM_eq (hR.2.2.1 t h2).1 (hR.2.2.1 s hs).1]; exact h11⟩
theorem fx_mcp {t e w : Nat} : FX X (mcp X t s e w) := fun a ha => mcp_o (fun q => by rw [q] at ha; exact absurd ha (by simp))
theorem fm_mmcp {t e w : Nat} : FM M (mmcp M t s e w) := fun a ha => mmcp_o (fun q => by rw [q] at ha; exact absurd ha (by simp))
theorem y_9 (K : EK) (d : Nat) (hs : s < 8) : SysSim K d X s 9 T := by
  by_cases h : spOK X s (X (3, s, 0) 120) (X (3, s, 0) 121) (X (3, s, 0) 122)
  · obtain ⟨t, w, e, h1, h2, h3, h4, h5, h6, h7, h8, h9, h10, h11⟩ := h
    have hts : t ≠ s := by omega
    refine ⟨_, c_sys9 K (d + 4) hs X (by rw [h4, h5, h8]; exact c_spawn1 K (d + 2) hs X h2 hts h7 h9 h1 h3 h6 h10 h11), fx_u (fx_u (fx_cpy fx_mcp) (leb rfl)) (leb rfl), fun M hR => ?_⟩
    exact ⟨_, m_call9 K (d + 4) hs M (by rw [hR.1 s hs 120 (by decide), hR.1 s hs 121 (by decide), hR.1 s hs 122 (by decide), h4, h5, h8]; exact m_spawns1 K (d + 3) hs h2 (Ne.symm hts) h7 h9 M hR.2.2.2.2.2.2.2.2 h1 h3 h6 (by rw [(hR.2.1 t h2).2.2.1]; exact h10) (by rw [subM_eq (hR.2.2.1 t h2).1 (hR.2.2.1 s hs).1]; exact h11)), fm_u (fm_lcp (fm_u fm_mmcp (leb rfl))) (leb rfl), (hR.spawn hs h2 hts h7 h9).setA hs _⟩
  · refine ⟨_, c_sys9 K (d + 4) hs X (c_spawn0 K (d + 2) hs X _ _ _ h), fx_u fx_r (leb rfl), fun M hR => ?_⟩
    exact ⟨_, m_call9 K (d + 4) hs M (by rw [hR.1 s hs 120 (by decide), hR.1 s hs 121 (by decide), hR.1 s hs 122 (by decide)]; exact m_spawns0 K (d + 3) hs M _ _ _ (by rw [sp_eq hR hs]; exact h)), fm_u fm_r (leb rfl), hR.setA hs _⟩
/-! OUTPUT -/
theorem Rel.out (h : Rel T X M) (hs : s < 8) {w : Nat} (hw : w < 64) (hx : X (2, s, 0) 14 = nI w) (v : Int32) : Rel T (outF X s w v) (mputF M s w v) := by
  obtain ⟨w', hw', o1, o2, o3⟩ := h.2.2.2.2.2.2.1 s hs
  have : w' = w := (nI_eq (by omega) (by omega)).mp (o1.symm.trans hx)
  subst this
  have emn : nI (mnF (up M (15, 15, 0) (64 * s + w') v) s) = X (4, s, 0) 1 := by
    have hb : bR X (up M (15, 15, 0) (64 * s + w') v) 6 s s 0 := (h.2.2.1 s hs).1.cg rfl (fun t _ => by rw [up_n (by simp)])
    rw [hb.mn, (h.2.2.1 s hs).2.1]
  refine h.out_gen hs (fun a h10 h11 h2 => by rw [outF, up_n h2, up_n h11, up_n h10]) (fun k hk => by rw [outF, up_k hk, up_n (by simp), up_n (by simp)]) (fun a h14 h15 h16 => by rw [mputF, up_n h14, up_n h16, up_n h15]) (fun u hu => by rw [mputF, up_k hu, up_n (by simp), up_n (by simp)]) (fun u hu => by rw [mputF, up_n (by simp), up_n (by simp), up_k (by omega)]) (fun u hu => by rw [mputF, up_n (by simp), up_k (by omega), up_n (by simp)]) ⟨w' + 1, by omega, by rw [outF, up_s, nI_1], by rw [mputF, up_s], fun e he => ?_⟩
  by_cases ee : e = w'
  · subst ee
    constructor
    · rw [mputF, up_n (by simp), up_n (by simp), up_s, outF, up_n (by simp), up_n (by simp), up_s]
    · rw [mputF, up_n (by simp), up_s, outF, up_n (by simp), up_s]
      exact emn
  · have := o3 e (by omega)
    constructor
    · rw [mputF, up_n (by simp), up_n (by simp), up_k (by omega), outF, up_n (by simp), up_n (by simp), up_k ee]; exact this.1
    · rw [mputF, up_n (by simp), up_k (by omega), up_n (by simp), outF, up_n (by simp), up_k ee, up_n (by simp)]; exact this.2
theorem y_10 (K : EK) (d : Nat) (hs : s < 8) (h0 : ∃ M, Rel T X M) : SysSim K d X s 10 T := by
  obtain ⟨M0, hR0⟩ := h0
  obtain ⟨w, hw, hx, -, -⟩ := hR0.2.2.2.2.2.2.1 s hs
  have hm : ∀ M, Rel T X M → M (15, 14, 0) s = nI w := fun M hR => by
    obtain ⟨w', _, o1, o2, -⟩ := hR.2.2.2.2.2.2.1 s hs
    rw [o2, ← o1]; exact hx
  by_cases h : w < 64
  · refine ⟨_, c_sys10 K (d + 4) hs X (c_addOutput K (d + 4) hs X _ hx h), fx_u (fx_u (fx_u (fx_u fx_r (leb rfl)) (leb rfl)) (leb rfl)) (leb rfl), fun M hR => ?_⟩
    exact ⟨_, m_call10 K (d + 4) hs M (by rw [hR.1 s hs 120 (by decide)]; exact m_puts K (d + 3) hs M _ (hm M hR) h), fm_u (fm_u (fm_u (fm_u fm_r (leb rfl)) (leb rfl)) (leb rfl)) (leb rfl), (hR.out hs h hx _).setA hs _⟩
  · have h : w = 64 := by omega
    refine ⟨_, c_sys10 K (d + 4) hs X (c_addOutputN K (d + 4) hs X _ hx h), fx_u fx_r (leb rfl), fun M hR => ?_⟩
    exact ⟨_, m_call10 K (d + 4) hs M (by rw [hR.1 s hs 120 (by decide)]; exact m_putsN K (d + 3) hs M _ (hm M hR) h), fm_u fm_r (leb rfl), hR.setA hs _⟩
theorem y_11 (K : EK) (d : Nat) (hs : s < 8) : SysSim K d X s 11 T := by
  refine ⟨_, c_sys11 K (d + 4) hs X, fx_u fx_r (leb rfl), fun M hR => ?_⟩
  exact ⟨_, (m_call11 K (d + 4) hs M).to rfl (by rw [(hR.2.2.1 s hs).1.mn, ← (hR.2.2.1 s hs).2.1]), fm_u fm_r (leb rfl), hR.setA hs _⟩
theorem y_X (K : EK) (d : Nat) (hs : s < 8) (x : Int32) (h : x.toInt < 0 ∨ 11 < x.toInt) : SysSim K d X s x T := ⟨_, c_sysX K (d + 4) hs X x h, fx_stop fx_r, fun M hR => ⟨_, m_callX K (d + 4) hs M x h, fm_trap fm_r, hR.trap hs 1⟩⟩
theorem y_all (K : EK) (d : Nat) (hs : s < 8) (x : Int32) (h0 : ∃ M, Rel T X M) : SysSim K d X s x T := by
  by_cases h : x.toInt < 0 ∨ 11 < x.toInt
  · exact y_X K d hs x h
  · have h1 : ¬ x < 0 := by
      rw [Int32.lt_iff_toInt_lt]
      show ¬ x.toInt < (0 : Int32).toInt
      rw [show (0 : Int32).toInt = 0 by decide]
      omega
    obtain ⟨k, hk, rfl⟩ := nI_of h1
    rw [nI_toInt hk] at h
    rcases (show k = 0 ∨ k = 1 ∨ k = 2 ∨ k = 3 ∨ k = 4 ∨ k = 5 ∨ k = 6 ∨ k = 7 ∨ k = 8 ∨ k = 9 ∨ k = 10 ∨ k = 11 by omega) with rfl | rfl | rfl | rfl | rfl | rfl | rfl | rfl | rfl | rfl | rfl | rfl
    · exact y_0 K d hs h0
    · exact y_1 K d hs h0
    · exact y_2 K d hs
    · exact y_3 K d hs h0
    · exact y_4 K d hs h0
    · exact y_5 K d hs h0
    · exact y_6 K d hs h0
    · exact y_7 K d hs
    · exact y_8 K d hs
    · exact y_9 K d hs
    · exact y_10 K d hs h0
    · exact y_11 K d hs
end SYS4
