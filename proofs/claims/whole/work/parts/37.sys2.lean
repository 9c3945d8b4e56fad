section SYS2
variable {X X' M M' : DT} {T : Nat × Nat} {s : Nat}
theorem rem_cases (q : Nat) (t : Int32) : (hasF (X (5, s, 1 + q)) t = false) ∨ ∃ n, n < 256 ∧ t = nI n ∧ tg (X (5, s, 1 + q)) n = true := by
  cases h : hasF (X (5, s, 1 + q)) t with
  | false => exact Or.inl rfl
  | true =>
    obtain ⟨n, hn, rfl⟩ := inR_t (N := 256) (by decide) (hasF_in h)
    exact Or.inr ⟨n, hn, rfl, by rw [← hasF_tg hn]; exact h⟩
theorem not_has (hR : Rel T X M) (hs : s < 8) {q : Nat} (hq : q < 2) {t : Int32} (h : hasF (X (5, s, 1 + q)) t = false) : inR t 256 = false ∨ ∃ n, n < 256 ∧ t = nI n ∧ cpB M (8 * q + s) n = false := by
  by_cases ht : inR t 256 = true
  · obtain ⟨n, hn, rfl⟩ := inR_t (N := 256) (by decide) ht
    exact Or.inr ⟨n, hn, rfl, by rw [(hR.2.2.2.1 s hs q hq).1.cp hn, ← hasF_tg hn]; exact h⟩
  · exact Or.inl (by simpa using ht)
/-- DROP, of a kind -/
theorem drop_m (K : EK) (e : Nat) (hR : Rel T X M) (hs : s < 8) {q : Nat} (hq : q < 2) (t : Int32) : ∃ M', CF K mX6_drops (e + 1) [rR (14, 0, 0), rI (nI s), rI t, rI (nI q)] M (some (rI (bI (hasF (X (5, s, 1 + q)) t)))) M' ∧ FM M M' ∧ Rel T (remF X s (1 + q) t) M' := by
  rcases rem_cases (X := X) (s := s) q t with h | ⟨n, hn, rfl, h⟩
  · rw [h, remF_not h]
    rcases not_has hR hs hq h with h2 | ⟨n, hn, rfl, h2⟩
    · exact ⟨_, m_dropsN K e hs hq M t h2, fm_r, hR⟩
    · exact ⟨_, m_drops0 K e hs hq hn M h2, fm_r, hR⟩
  · rw [hasF_tg hn, h, remF_had hn (by rw [hasF_tg hn]; exact h)]
    exact ⟨_, m_drops1 K e hs hq hn M (by rw [(hR.2.2.2.1 s hs q hq).1.cp hn]; exact h), fm_u fm_r (leb rfl), hR.capRem hs hq hn h⟩
theorem y_2 (K : EK) (d : Nat) (hs : s < 8) : SysSim K d X s 2 T := by
  by_cases hb : X (3, s, 0) 121 = 0
  · refine ⟨_, c_sys2 K (d + 4) hs X (by rw [hb]; exact c_drop0 K (d + 2) hs X _), fx_u (fx_remF fx_r) (leb rfl), fun M hR => ?_⟩
    obtain ⟨M', h1, h2, h3⟩ := drop_m K (d + 3) hR hs (q := 0) (by decide) (X (3, s, 0) 120)
    refine ⟨_, m_call2a K (d + 4) hs M (by rw [hR.1 s hs 121 (by decide)]; exact hb) (by rw [hR.1 s hs 120 (by decide)]; exact h1), fm_u h2 (leb rfl), h3.setA hs _⟩
  · refine ⟨_, c_sys2 K (d + 4) hs X (c_drop1 K (d + 2) hs X hb _), fx_u (fx_remF fx_r) (leb rfl), fun M hR => ?_⟩
    obtain ⟨M', h1, h2, h3⟩ := drop_m K (d + 3) hR hs (q := 1) (by decide) (X (3, s, 0) 120)
    refine ⟨_, m_call2b K (d + 4) hs M (by rw [hR.1 s hs 121 (by decide)]; exact hb) (by rw [hR.1 s hs 120 (by decide)]; exact h1), fm_u h2 (leb rfl), h3.setA hs _⟩
/-- SEND -/
theorem send_sim (K : EK) (e : Nat) (hs : s < 8) (to v kd : Int32) (hk : kd = (-1) ∨ ∃ u w, u < 2 ∧ w < 256 ∧ kd = nI u ∧ v = nI w) (h0 : ∃ M, Rel T X M) : ∃ X', CF K mX5_send (e + 2) [rR (0, 0, 0), rR (2, s, 0), rI to, rI v, rI kd] X (some (rI 1)) X' ∧ FX X X' ∧ ∀ M, Rel T X M → ∃ M', CF K mX6_sends (e + 2) [rR (14, 0, 0), rI (nI s), rI to, rI v, rI kd] M none M' ∧ FM M M' ∧ Rel T X' M' := by
  obtain ⟨M0, hR0⟩ := h0
  by_cases hin : inR to 8 = true
  · obtain ⟨t, ht, rfl⟩ := inR_t (N := 8) (by decide) hin
    obtain ⟨p, z, hq⟩ := hR0.2.2.2.2.2.1 t ht
    have es : ∀ M, Rel T X M → subM M s t = subB (X (5, s, 0)) (X (5, t, 0)) := fun M hR => subM_eq (hR.2.2.1 s hs).1 (hR.2.2.1 t ht).1
    by_cases hz : z < 8
    · cases hsb : subB (X (5, s, 0)) (X (5, t, 0)) with
      | false => exact ⟨_, c_send1 K e hs X v kd ht hsb, fx_r, fun M hR => ⟨_, c_sends1 K e hs M v kd ht (hR0.q hR ht hq).2.2.2.2.1 hz (by rw [es M hR]; exact hsb), fm_r, hR⟩⟩
      | true => exact ⟨_, c_send3 K e hs X v kd ht hsb hq.1 hq.2.2.1 hq.2.2.2.1 hz, fx_put, fun M hR => ⟨_, c_sends3 K e hs M v kd ht (hR0.q hR ht hq).2.2.2.2.1 hz (by rw [es M hR]; exact hsb) (fun u hu => bR_isB (hR.2.2.1 s hs).1 (by omega) (by omega)), fm_com, hR.put hs ht (hR0.q hR ht hq) hz hk⟩⟩
    · have hz : z = 8 := by have := hq.2.1; omega
      refine ⟨X, ?_, fx_r, fun M hR => ⟨_, c_sends2 K e hs M v kd ht (hR0.q hR ht hq).2.2.2.2.1 hz, fm_r, hR⟩⟩
      cases hsb : subB (X (5, s, 0)) (X (5, t, 0)) with
      | false => exact c_send1 K e hs X v kd ht hsb
      | true => exact c_send2 K e hs X v kd ht hsb hq.1 hq.2.2.1 hq.2.2.2.1 hz
  · have ht : inR to 8 = false := by simpa using hin
    exact ⟨_, c_send0 K e hs X v kd to ht, fx_r, fun M hR => ⟨_, c_sends0 K e hs M v kd to ht, fm_r, hR⟩⟩
theorem y_3 (K : EK) (d : Nat) (hs : s < 8) (h0 : ∃ M, Rel T X M) : SysSim K d X s 3 T := by
  obtain ⟨X', h1, h2, h3⟩ := send_sim K (d + 2) hs (X (3, s, 0) 120) (X (3, s, 0) 121) (-1) (Or.inl rfl) h0
  refine ⟨_, c_sys3 K (d + 4) hs X h1, fx_u h2 (leb rfl), fun M hR => ?_⟩
  obtain ⟨M', g1, g2, g3⟩ := h3 M hR
  exact ⟨_, m_call3 K (d + 4) hs M (by rw [hR.1 s hs 120 (by decide), hR.1 s hs 121 (by decide)]; exact g1), fm_u g2 (leb rfl), g3.setA hs _⟩
/-- PASS, of a kind -/
theorem pass_sim (K : EK) (d : Nat) (hs : s < 8) {q : Nat} (hq : q < 2) (to t : Int32) (h0 : ∃ M, Rel T X M)
    (cN : hasF (X (5, s, 1 + q)) t = false → CF K mX5_pass (d + 4) [rR (0, 0, 0), rR (2, s, 0), rI to, rI t, rI (X (3, s, 0) 122)] X (some (rI 0)) X)
    (cY : hasF (X (5, s, 1 + q)) t = true → ∀ D2, CF K mX5_send (d + 3) [rR (0, 0, 0), rR (2, s, 0), rI to, rI t, rI (nI q)] X (some (rI 1)) D2 → CF K mX5_pass (d + 4) [rR (0, 0, 0), rR (2, s, 0), rI to, rI t, rI (X (3, s, 0) 122)] X (some (rI 1)) D2) :
    ∃ r X', CF K mX5_pass (d + 4) [rR (0, 0, 0), rR (2, s, 0), rI to, rI t, rI (X (3, s, 0) 122)] X (some (rI r)) X' ∧ FX X X' ∧ ∀ M, Rel T X M → ∃ M', CF K mX6_passes (d + 4) [rR (14, 0, 0), rI (nI s), rI to, rI t, rI (nI q)] M (some (rI r)) M' ∧ FM M M' ∧ Rel T X' M' := by
  rcases rem_cases (X := X) (s := s) q t with h | ⟨n, hn, rfl, h⟩
  · refine ⟨_, _, cN h, fx_r, fun M hR => ?_⟩
    rcases not_has hR hs hq h with h2 | ⟨n, hn, rfl, h2⟩
    · exact ⟨_, m_passesN K (d + 1) hs hq M to t h2, fm_r, hR⟩
    · exact ⟨_, m_passes0 K (d + 1) hs hq hn M to h2, fm_r, hR⟩
  · obtain ⟨X', h1, h2, h3⟩ := send_sim K (d + 1) hs to (nI n) (nI q) (Or.inr ⟨q, n, hq, hn, rfl, rfl⟩) h0
    refine ⟨_, _, cY (by rw [hasF_tg hn]; exact h) X' h1, h2, fun M hR => ?_⟩
    obtain ⟨M', g1, g2, g3⟩ := h3 M hR
    exact ⟨_, m_passes1 K (d + 1) hs hq hn M to (by rw [(hR.2.2.2.1 s hs q hq).1.cp hn]; exact h) g1, g2, g3⟩
theorem y_4 (K : EK) (d : Nat) (hs : s < 8) (h0 : ∃ M, Rel T X M) : SysSim K d X s 4 T := by
  by_cases hb : X (3, s, 0) 122 = 0
  · obtain ⟨r, X', h1, h2, h3⟩ := pass_sim K d hs (q := 0) (by decide) (X (3, s, 0) 120) (X (3, s, 0) 121) h0 (fun h => by rw [hb]; exact c_passN0 K (d + 1) hs X _ _ h) (fun h D2 hc => by rw [hb]; exact c_pass0 K (d + 1) hs X _ _ h hc)
    refine ⟨_, c_sys4 K (d + 4) hs X h1, fx_u h2 (leb rfl), fun M hR => ?_⟩
    obtain ⟨M', g1, g2, g3⟩ := h3 M hR
    exact ⟨_, m_call4a K (d + 4) hs M (by rw [hR.1 s hs 122 (by decide)]; exact hb) (by rw [hR.1 s hs 120 (by decide), hR.1 s hs 121 (by decide)]; exact g1), fm_u g2 (leb rfl), g3.setA hs _⟩
  · obtain ⟨r, X', h1, h2, h3⟩ := pass_sim K d hs (q := 1) (by decide) (X (3, s, 0) 120) (X (3, s, 0) 121) h0 (fun h => c_passN1 K (d + 1) hs X hb _ _ h) (fun h D2 hc => c_pass1 K (d + 1) hs X hb _ _ h hc)
    refine ⟨_, c_sys4 K (d + 4) hs X h1, fx_u h2 (leb rfl), fun M hR => ?_⟩
    obtain ⟨M', g1, g2, g3⟩ := h3 M hR
    exact ⟨_, m_call4b K (d + 4) hs M (by rw [hR.1 s hs 122 (by decide)]; exact hb) (by rw [hR.1 s hs 120 (by decide), hR.1 s hs 121 (by decide)]; exact g1), fm_u g2 (leb rfl), g3.setA hs _⟩
/-! RECEIVE -/
theorem dropF_o {z : Nat} {a : AD} (h6 : a ≠ (15, 6, 0)) (h10 : a ≠ (15, 10, 0)) (h11 : a ≠ (15, 11, 0)) (h12 : a ≠ (15, 12, 0)) (h13 : a ≠ (15, 13, 0)) : dropF M s z a = M a := by rw [dropF, shF_o h6 h11 h12 h13, up_n h10]
theorem fm_drop {z : Nat} (h : FM M M') : FM M (dropF M' s z) := fun a ha => by
  have hn : ∀ n, a ≠ (15, n, 0) := fun n e => by rw [e] at ha; exact absurd ha (by simp)
  rw [dropF_o (hn _) (hn _) (hn _) (hn _) (hn _)]
  exact h a ha
theorem fx_qst {p z : Nat} (h : FX X X') : FX X (qst X' s p z) := fx_u (fx_u h (leb rfl)) (leb rfl)
theorem qst_n {p z : Nat} {a : AD} (h : a ≠ (6, s, 0)) : qst X s p z a = X a := by rw [qst, up_n h, up_n h]
theorem Rel.drop (h : Rel T X M) (hs : s < 8) {p z : Nat} (hq : qR X M s p (z + 1)) : Rel T (qst X s ((p + 1) % 8) z) (dropF M s z) ∧ qR (qst X s ((p + 1) % 8) z) (dropF M s z) s ((p + 1) % 8) z := by
  obtain ⟨q1, q2, q3, q4, q5, q6⟩ := hq
  have m6 : dropF M s z (15, 6, 0) = sh1 (M (15, 6, 0)) (256 * (72 + 8 * s)) 256 (256 * z) := by rw [dropF, shF_6, up_n (by simp)]
  have m11 : dropF M s z (15, 11, 0) = sh1 (M (15, 11, 0)) (8 * s) 1 z := by rw [dropF, shF_11, up_n (by simp)]
  have m12 : dropF M s z (15, 12, 0) = sh1 (M (15, 12, 0)) (8 * s) 1 z := by rw [dropF, shF_12, up_n (by simp)]
  have m13 : dropF M s z (15, 13, 0) = sh1 (M (15, 13, 0)) (8 * s) 1 z := by rw [dropF, shF_13, up_n (by simp)]
  have hqr : qR (qst X s ((p + 1) % 8) z) (dropF M s z) s ((p + 1) % 8) z := by
    refine ⟨Nat.mod_lt _ (by decide), by omega, qst_1, qst_2, dropF_z, fun k hk => ?_⟩
    have hk1 := q6 (k + 1) (by omega)
    rw [show (p + (k + 1)) % 8 = ((p + 1) % 8 + k) % 8 by omega] at hk1
    generalize ((p + 1) % 8 + k) % 8 = q at hk1 ⊢
    obtain ⟨a1, a2, a3, a4, a5⟩ := hk1
    refine ⟨fun t ht => ?_, ?_, ?_, ?_, ?_⟩
    · rw [m6, sh1_in (by omega), qst_n (by simp), show 256 * (72 + (8 * s + k)) + t + 256 = 256 * (72 + (8 * s + (k + 1))) + t by omega]
      exact a1 t ht
    · rw [m11, sh1_in (by omega), qst_n (by simp)]; exact a2
    · rw [m12, sh1_in (by omega), qst_n (by simp)]; exact a3
    · rw [m13, sh1_in (by omega), qst_n (by simp)]; exact a4
    · rw [qst_n (by simp)]; exact a5
  refine ⟨h.que_gen hs (fun a h6 _ _ _ => qst_n h6) (fun a h6 h10 h11 h12 h13 => dropF_o h6 h10 h11 h12 h13) (fun u hu => by rw [dropF, shF_o (by simp) (by simp) (by simp) (by simp), up_k hu]) (fun u hu => by rw [m11, sh1_out (by omega)]) (fun u hu => by rw [m12, sh1_out (by omega)]) (fun u hu => by rw [m13, sh1_out (by omega)]) (fun u hu => by rw [m6, sh1_out (by omega)]) (dropF_B hs (by omega) h.2.2.2.2.2.2.2.2) ⟨_, _, hqr⟩, hqr⟩
theorem fm_mrd : ∀ (z : Nat) (M : DT), FM M (mrd s z M).1
  | 0, M => fm_r
  | z + 1, M => by
    unfold mrd
    split
    · exact fm_r
    · exact fm_t (fm_drop fm_r) (fm_mrd z (dropF M s z))
/-- what class and reference drop -/
theorem rcv_sim (hs : s < 8) : ∀ (z p : Nat) (M : DT), Rel T (qst X s p z) M → qR (qst X s p z) M s p z →
    ((tk (tkc X s s 0) p z).1 = none → (mrd s z M).2 = 0 ∧ Rel T (qst X s (tk (tkc X s s 0) p z).2.1 (tk (tkc X s s 0) p z).2.2) (mrd s z M).1) ∧
    ∀ q, (tk (tkc X s s 0) p z).1 = some q → ∃ y, (mrd s z M).2 = y + 1 ∧ (tk (tkc X s s 0) p z).2.2 = y ∧ (tk (tkc X s s 0) p z).2.1 = (q + 1) % 8 ∧ Rel T (qst X s q (y + 1)) (mrd s z M).1 ∧ qR (qst X s q (y + 1)) (mrd s z M).1 s q (y + 1)
  | 0, p, M, hR, hq => ⟨fun _ => ⟨rfl, hR⟩, fun q h => nomatch h⟩
  | z + 1, p, M, hR, hq => by
    have hl : subM M (72 + 8 * s) s = tkc X s s 0 p := by
      have h1 := (hq.2.2.2.2.2 0 (by omega)).1
      rw [show (p + 0) % 8 = p by have := hq.1; omega] at h1
      have h2 := (hR.2.2.1 s hs).1
      have := subM_eq h1 h2
      rw [qst_n (by simp), qst_n (by simp)] at this
      exact this
    unfold tk mrd
    rw [hl]
    cases hc : tkc X s s 0 p with
    | true =>
      simp only [if_true]
      refine ⟨(fun h => nomatch h), fun q h => ?_⟩
      cases h
      exact ⟨z, rfl, rfl, rfl, hR, hq⟩
    | false =>
      simp only [Bool.false_eq_true, if_false]
      have hd := hR.drop hs hq
      have eq : qst (qst X s p (z + 1)) s ((p + 1) % 8) z = qst X s ((p + 1) % 8) z := qst_s
      rw [eq] at hd
      exact rcv_sim hs z ((p + 1) % 8) (dropF M s z) hd.1 hd.2
theorem qst_up {p z k : Nat} {a : AD} {v : Int32} (h : a ≠ (6, s, 0)) : qst (up X a k v) s p z = up (qst X s p z) a k v := by
  funext b n
  by_cases e : b = (6, s, 0)
  · subst e
    rw [up_n (Ne.symm h)]
    simp only [qst, up_at]
    rw [if_neg (c := (6, s, 0) = a ∧ n = k) (fun q => h q.1.symm)]
  · rw [qst_n e, up_at, up_at, qst_n e]
end SYS2
