section SIM3
variable {X X' M M' : DT} {T : Nat × Nat} {s : Nat}
theorem cf_eq (hR : Rel T X M) (hs : s < 8) : ∀ (n k : Nat) (c : Int32), k + n = 8 → mcf M s n k c = cfL X s n k c
  | 0, _, _, _ => rfl
  | n + 1, k, c, hk => by
    unfold mcf cfL
    have h := (hR.2.2.2.2.1 (8 * s + k) (by omega)).1
    rw [show (8 * s + k) / 8 = s by omega, show (8 * s + k) % 8 = k by omega] at h
    rw [h, cf_eq hR hs n (k + 1) _ (by omega), Int32.add_zero]
theorem small_in {x : Int32} (h : ¬ (x.toInt < 0 ∨ 10 < x.toInt)) : ∃ k, k < 11 ∧ x = nI k := by
  have h1 : ¬ x < 0 := by
    rw [Int32.lt_iff_toInt_lt]
    show ¬ x.toInt < (0 : Int32).toInt
    rw [show (0 : Int32).toInt = 0 by decide]
    omega
  obtain ⟨k, hk, rfl⟩ := nI_of h1
  rw [nI_toInt hk] at h
  exact ⟨k, by omega, rfl⟩
theorem s_slot (K : EK) (d : Nat) (a x : Int32) (h0 : ∃ M, Rel T X M) : Sim K d mX5_slot mX6_slot [rI a, rI x] T T X := by
  by_cases h : inR a 8 = true
  · obtain ⟨s, hs, rfl⟩ := inR_t (N := 8) (by decide) h
    by_cases hx : x.toInt < 0 ∨ 10 < x.toInt
    · exact ⟨_, _, c_slotX K (d + 6) X hs x hx, fx_r, fun M hR => ⟨_, m_slotX K (d + 5) M hs x hx, fm_r, hR⟩⟩
    · obtain ⟨k, hk, rfl⟩ := small_in hx
      rcases (show k = 0 ∨ k = 1 ∨ k = 2 ∨ k = 3 ∨ k = 4 ∨ k = 5 ∨ k = 6 ∨ k = 7 ∨ k = 8 ∨ k = 9 ∨ k = 10 by omega) with rfl | rfl | rfl | rfl | rfl | rfl | rfl | rfl | rfl | rfl | rfl
      · exact ⟨_, _, c_slot0 K (d + 6) X hs, fx_r, fun M hR => ⟨_, (m_slot0 K (d + 5) M hs).to (by rw [(hR.2.1 s hs).2.2.1]) rfl, fm_r, hR⟩⟩
      · exact ⟨_, _, c_slot1 K (d + 6) X hs, fx_r, fun M hR => ⟨_, (m_slot1 K (d + 5) M hs).to (by rw [(hR.2.1 s hs).2.2.2.1]) rfl, fm_r, hR⟩⟩
      · exact ⟨_, _, c_slot2 K (d + 6) X hs, fx_r, fun M hR => ⟨_, (m_slot2 K (d + 5) M hs).to (by rw [(hR.2.1 s hs).1]) rfl, fm_r, hR⟩⟩
      · exact ⟨_, _, c_slot3 K (d + 6) X hs, fx_r, fun M hR => ⟨_, (m_slot3 K (d + 5) M hs).to (by rw [(hR.2.1 s hs).2.1]) rfl, fm_r, hR⟩⟩
      · exact ⟨_, _, c_slot4 K (d + 6) X hs, fx_r, fun M hR => ⟨_, (m_slot4 K (d + 5) M hs).to (by rw [(hR.2.2.1 s hs).1.mn, (hR.2.2.1 s hs).2.1]) rfl, fm_r, hR⟩⟩
      · exact ⟨_, _, c_slot5 K (d + 6) X hs, fx_r, fun M hR => ⟨_, (m_slot5 K (d + 5) M hs).to (by rw [(hR.2.1 s hs).2.2.2.2.1]) rfl, fm_r, hR⟩⟩
      · exact ⟨_, _, c_slot6 K (d + 6) X hs, fx_r, fun M hR => ⟨_, (m_slot6 K (d + 5) M hs).to (by rw [(hR.2.2.2.1 s hs 0 (by decide)).1.cn]; exact congrArg (fun z => some (rI z)) (hR.2.2.2.1 s hs 0 (by decide)).2.1.symm) rfl, fm_r, hR⟩⟩
      · exact ⟨_, _, c_slot7 K (d + 6) X hs, fx_r, fun M hR => ⟨_, (m_slot7 K (d + 5) M hs).to (by rw [(hR.2.2.2.1 s hs 1 (by decide)).1.cn]; exact congrArg (fun z => some (rI z)) (hR.2.2.2.1 s hs 1 (by decide)).2.1.symm) rfl, fm_r, hR⟩⟩
      · refine ⟨_, _, c_slot8 K (d + 6) X hs, fx_r, fun M hR => ⟨_, (m_slot8 K (d + 5) M hs).to ?_ rfl, fm_r, hR⟩⟩
        obtain ⟨p, z, -, -, -, h1, h2, -⟩ := hR.2.2.2.2.2.1 s hs
        rw [h1, h2]
      · exact ⟨_, _, c_slot9 K (d + 6) X hs, fx_r, fun M hR => ⟨_, (m_slot9 K (d + 5) M hs).to (by rw [cf_eq hR hs 8 0 0 rfl]) rfl, fm_r, hR⟩⟩
      · refine ⟨_, _, c_slot10 K (d + 6) X hs, fx_r, fun M hR => ⟨_, (m_slot10 K (d + 5) M hs).to ?_ rfl, fm_r, hR⟩⟩
        obtain ⟨w, -, h1, h2, -⟩ := hR.2.2.2.2.2.2.1 s hs
        rw [h1, h2]
  · have h : inR a 8 = false := by simpa using h
    exact ⟨_, _, c_slotN K (d + 6) X a x h, fx_r, fun M hR => ⟨_, m_slotN K (d + 5) M a x h, fm_r, hR⟩⟩
/-! files -/
theorem zr_at {D : DT} {a : AD} {lo n k : Nat} (h : lo ≤ k ∧ k < lo + n) : zr D a lo n a k = 0 := by simp only [zr, if_true, h, and_self]
theorem zr_out {D : DT} {a : AD} {lo n k : Nat} (h : ¬ (lo ≤ k ∧ k < lo + n)) : zr D a lo n a k = D a k := by simp only [zr, if_true, h, if_false]
theorem tg_zero {f : Nat → Int32} (h : ∀ k, k < 8 → f k = 0) {t : Nat} (ht : t < 256) : tg f t = false := by
  unfold tg
  rw [h _ (by omega)]
  have : (0 : Int32).toBitVec = 0#32 := by decide
  rw [this, BitVec.getLsbD_zero]
theorem Rel.newFile (h : Rel T X M) {n : Nat} (hn : n < 64) (h0 : X (12, n / 8, n % 8) 2 = 0) : Rel T (up X (12, n / 8, n % 8) 2 1) (mnew M n) := by
  obtain ⟨a, b, c, d, g⟩ := h.2.2.2.2.1 n hn
  refine h.fil_gen hn (fun a _ _ h12 _ => up_n h12) (fun a h6 h8 h9 => by rw [mnew, zr_o h9, zr_o h6, up_n h8]) (fun u hu => by rw [mnew, zr_o (by simp), zr_o (by simp), up_k hu]) (fun u hu => by rw [mnew, zr_out hu, zr_o (by simp), up_n (by simp)]) (fun u hu => by rw [mnew, zr_o (by simp), zr_out hu, up_n (by simp)]) (fun u h1 h2 => by rw [mnew, zr_o (by simp), zr_at ⟨h1, h2⟩]; exact Or.inl rfl) ?_
  refine ⟨by rw [mnew, zr_o (by simp), zr_o (by simp), up_s, up_s], b.cg (up_n (by simp)) (by rw [up_n (by simp)]), fun _ => ⟨fun t ht => ?_, fun e he => ?_⟩, fun hq => absurd (up_s.symm.trans hq) (by decide), by rw [up_s]; exact Or.inr rfl⟩
  · rw [mnew, zr_o (by simp), zr_at (by omega), up_n (by simp), tg_zero (d h0).1 ht]
    rfl
  · rw [mnew, zr_at (by omega), up_n (by simp), (d h0).2 e he]
theorem Rel.filAdd (h : Rel T X M) {n t : Nat} (hn : n < 64) (ht8 : t < 256) (h1 : ¬ X (12, n / 8, n % 8) 2 = 0) (ht : tg (X (5, n / 8, 11 + n % 8)) t = false) (hc : cntN (tg (X (5, n / 8, 11 + n % 8))) 256 < 16) : Rel T (addD X (n / 8) (11 + n % 8) t) (up M (15, 6, 0) (256 * (8 + n) + t) 1) := by
  obtain ⟨a, b, c, d, g⟩ := h.2.2.2.2.1 n hn
  have hb := (c h1).1.add (n := t) ht8
  refine h.fil_gen hn (fun a h4 h5 _ _ => addD_n h4 h5) (fun a h6 _ _ => up_n h6) (fun u _ => by rw [up_n (by simp)]) (fun u _ => by rw [up_n (by simp)]) (fun u hu => by rw [up_k (by omega)]) (fun u q1 q2 => bR_isB hb q1 q2) ?_
  exact ⟨by rw [up_n (by simp), addD_n (by simp) (by simp)]; exact a, b.add ht8 ht hc, fun _ => ⟨hb, fun e he => by rw [up_n (by simp), addD_n (by simp) (by simp)]; exact (c h1).2 e he⟩, fun hq => absurd (by rw [addD_n (by simp) (by simp)] at hq; exact hq) h1, by rw [addD_n (by simp) (by simp)]; exact g⟩
/-- a tag for a file that is there -/
theorem fil_tag (K : EK) (d : Nat) {n t : Nat} (hn : n < 64) (ht : t < 256) (h1 : ¬ X (12, n / 8, n % 8) 2 = 0) (hz : szR X (n / 8) (11 + n % 8) 16) : ∃ r X', chgR X (n / 8) (11 + n % 8) (nI t) 1 16 = r ∧ chgD X (n / 8) (11 + n % 8) (nI t) 1 16 = X' ∧ FX X X' ∧ ∀ M, Rel T X M → ∃ M', CF K mX6_setTag (d + 1) [rR (14, 0, 0), rI (nI (8 + n)), rI (nI t), rI 1] M (some (rI r)) M' ∧ FM M M' ∧ Rel T X' M' := by
  rcases chg_cases (n := t) (b := 1) hz (by decide) ht (Or.inr rfl) with ⟨e1, e2, e3, e4, e5⟩ | ⟨e1, e2, e3, e4, e5⟩ | ⟨e1, e2, e4, e5⟩ | ⟨e1, e2, e4, e5⟩ | ⟨e1, e2, e4, e5⟩
  · refine ⟨_, _, e4, e5, fx_r, fun M hR => ?_⟩
    have hbr := ((hR.2.2.2.2.1 n hn).2.2.1 h1).1
    exact ⟨_, m_setTagN K d (by omega) ht M 1 (Or.inr rfl) (by decide) (hbr.z ht e2) (by rw [hbr.mn]; exact e3), fm_r, hR⟩
  · refine ⟨_, _, e4, e5, fx_add fx_r, fun M hR => ?_⟩
    have hbr := ((hR.2.2.2.2.1 n hn).2.2.1 h1).1
    have hR' := hR.filAdd hn ht h1 e2 e3
    exact ⟨_, (m_setTag K d (by omega) ht M 1 (Or.inr rfl) (Or.inr (Or.inr (by rw [hbr.mn]; omega)))).to (by rw [((hR'.2.2.2.2.1 n hn).2.2.1 (by rw [addD_n (by simp) (by simp)]; exact h1)).1.mn, cnt_add ht e2]) rfl, fm_u fm_r (leb rfl), hR'⟩
  · refine ⟨_, _, e4, e5, fx_r, fun M hR => ?_⟩
    have hbr := ((hR.2.2.2.2.1 n hn).2.2.1 h1).1
    exact ⟨_, (m_setTag K d (by omega) ht M 1 (Or.inr rfl) (Or.inr (Or.inl (by rw [hbr.o ht e2]; decide)))).to (by rw [up_id (hbr.o ht e2), hbr.mn]) (up_id (hbr.o ht e2)), fm_r, hR⟩
  · exact absurd e1 (by decide)
  · exact absurd e1 (by decide)
theorem fm_t {M1 M2 : DT} (h1 : FM M M1) (h2 : FM M1 M2) : FM M M2 := fun a ha => (h2 a ha).trans (h1 a ha)
theorem fx_t {X1 X2 : DT} (h1 : FX X X1) (h2 : FX X1 X2) : FX X X2 := fun a ha => (h2 a ha).trans (h1 a ha)
theorem s_file (K : EK) (d : Nat) (k t : Int32) (h0 : ∃ M, Rel T X M) : Sim K d mX5_file mX6_file [rI k, rI t] T T X := by
  obtain ⟨M0, hR0⟩ := h0
  by_cases h : inR k 64 = true ∧ (t < 0 ∨ thB X t = true)
  · obtain ⟨n, hn, rfl⟩ := inR_t (N := 64) (by decide) h.1
    have hz : szR (up X (12, n / 8, n % 8) 2 1) (n / 8) (11 + n % 8) 16 := (hR0.2.2.2.2.1 n hn).2.1.cg (up_n (by simp)) (by rw [up_n (by simp)])
    have h1 : ¬ up X (12, n / 8, n % 8) 2 1 (12, n / 8, n % 8) 2 = 0 := by rw [up_s]; decide
    have hX1 : ∀ M, Rel T X M → ¬ X (12, n / 8, n % 8) 2 = 0 → up X (12, n / 8, n % 8) 2 1 = X := by
      intro M hR hq
      rcases (hR.2.2.2.2.1 n hn).2.2.2.2 with e | e
      · exact absurd e hq
      · exact up_id e
    have mn : ∀ M, FM M (mnew M n) := fun M => fm_zr (leb rfl) (fm_zr (leb rfl) (fm_u fm_r (leb rfl)))
    by_cases ht : t < 0
    · refine ⟨_, _, c_file1 K (d + 4) X hn t ht, fx_u fx_r (leb rfl), fun M hR => ?_⟩
      have hf := hR.2.2.2.2.1 n hn
      by_cases hq : X (12, n / 8, n % 8) 2 = 0
      · have hR' := hR.newFile hn hq
        refine ⟨_, (m_fileNew1 K (d + 5) M hn t (by rw [hf.1]; exact hq) ht).to ?_ rfl, mn M, hR'⟩
        have := ((hR'.2.2.2.2.1 n hn).2.2.1 h1).1.mn
        rw [this, up_n (by simp), hf.2.1.1]
      · refine ⟨_, (m_fileOld1 K (d + 5) M hn t (by rw [hf.1]; exact hq) ht).to ?_ rfl, fm_r, by rw [hX1 M hR hq]; exact hR⟩
        rw [(hf.2.2.1 hq).1.mn, hf.2.1.1]
    · have hth : thB X t = true := h.2.resolve_left ht
      obtain ⟨m, hm, rfl⟩ := inR_t (N := 256) (by decide) (thB_in hth)
      obtain ⟨r, X', e1, e2, e3, e4⟩ := fil_tag (T := T) K (d + 5) hn hm h1 hz
      refine ⟨_, _, (c_file2 K (d + 4) X hn (nI m) ht hth).to (by rw [e1]) e2, fx_t (fx_u fx_r (leb rfl)) e3, fun M hR => ?_⟩
      have hf := hR.2.2.2.2.1 n hn
      have hmt : mthB M (nI m) = true := by rw [th_eq hR]; exact hth
      by_cases hq : X (12, n / 8, n % 8) 2 = 0
      · obtain ⟨M', g1, g2, g3⟩ := e4 (mnew M n) (hR.newFile hn hq)
        exact ⟨M', m_fileNew2 K (d + 5) M hn (nI m) (by rw [hf.1]; exact hq) ht hmt g1, fm_t (mn M) g2, g3⟩
      · obtain ⟨M', g1, g2, g3⟩ := e4 M (by rw [hX1 M hR hq]; exact hR)
        exact ⟨M', m_fileOld2 K (d + 5) M hn (nI m) (by rw [hf.1]; exact hq) ht hmt g1, g2, g3⟩
  · exact ⟨_, _, c_fileN K (d + 4) X k t h, fx_r, fun M hR => ⟨_, m_fileN K (d + 5) M k t (by rw [th_eq hR]; exact h), fm_r, hR⟩⟩
/-! messages -/
theorem cpyF_5 {i j i2 j2 k : Nat} (hk : k < 8) : cpyF X i j i2 j2 (5, i, j) k = X (5, i2, j2) k := by
  rw [cpyF, up_n (by simp)]
  simp [cpyW, hk]
theorem cpyF_n {i j i2 j2 : Nat} {a : AD} (h4 : a ≠ (4, i, j)) (h5 : a ≠ (5, i, j)) : cpyF X i j i2 j2 a = X a := by rw [cpyF, up_n h4, cpyW, if_neg h5]
theorem tg_cpy {i j i2 j2 t : Nat} (ht : t < 256) : tg (cpyF X i j i2 j2 (5, i, j)) t = tg (X (5, i2, j2)) t := by
  unfold tg
  rw [cpyF_5 (by omega)]
theorem lcp_in {l m t : Nat} (ht : t < 256) : lcp M l m 256 (15, 6, 0) (256 * m + t) = M (15, 6, 0) (256 * l + t) := by
  have h1 : 256 * m ≤ 256 * m + t ∧ 256 * m + t < 256 * m + 256 := by omega
  have h2 : 256 * m + t - 256 * m = t := by omega
  simp only [lcp, if_true, h1, and_self, h2]
theorem lcp_out {l m u : Nat} (h : ¬ (256 * m ≤ u ∧ u < 256 * m + 256)) : lcp M l m 256 (15, 6, 0) u = M (15, 6, 0) u := by simp only [lcp, if_true, h, if_false]
theorem bR.copy {l m i j i2 j2 : Nat} (h : bR X M 6 l i2 j2) : bR (cpyF X i j i2 j2) (lcp M l m 256) 6 m i j := fun t ht => by rw [lcp_in ht, tg_cpy ht]; exact h t ht
theorem Rel.put (h : Rel T X M) {f t p z : Nat} (hf : f < 8) (ht : t < 8) (hq : qR X M t p z) (hz : z < 8) {v kd : Int32} (hk : kd = (-1) ∨ ∃ u w, u < 2 ∧ w < 256 ∧ kd = nI u ∧ v = nI w) : Rel T (putF X t f v kd p z) (comF M f t v kd z) := by
  obtain ⟨q1, q2, q3, q4, q5, q6⟩ := hq
  have hlab := (h.2.2.1 f hf).1
  have hX : ∀ a, a ≠ (6, t, 0) → a ≠ (8, t, (p + z) % 8) → a ≠ (4, t, 3 + (p + z) % 8) → a ≠ (5, t, 3 + (p + z) % 8) → putF X t f v kd p z a = X a := fun a h6 h8 h4 h5 => by rw [putF, up_n h6, up_n h8, up_n h8, up_n h8, cpyF_n h4 h5]
  have hM : ∀ a, a ≠ (15, 6, 0) → a ≠ (15, 10, 0) → a ≠ (15, 11, 0) → a ≠ (15, 12, 0) → a ≠ (15, 13, 0) → comF M f t v kd z a = M a := fun a h6 h10 h11 h12 h13 => by rw [comF, up_n h10, up_n h13, up_n h12, up_n h11, lcp_o h6]
  have m6 : comF M f t v kd z (15, 6, 0) = lcp M f (72 + (8 * t + z)) 256 (15, 6, 0) := by rw [comF, up_n (by simp), up_n (by simp), up_n (by simp), up_n (by simp)]
  refine h.que_gen ht (fun a h6 h8 h4 h5 => hX a h6 (h8 _ (by omega)) (h4 _ (by omega)) (h5 _ (by omega))) hM (fun u hu => by rw [comF, up_k hu, up_n (by simp), up_n (by simp), up_n (by simp), lcp_o (by simp)]) (fun u hu => by rw [comF, up_n (by simp), up_n (by simp), up_n (by simp), up_k (by omega), lcp_o (by simp)]) (fun u hu => by rw [comF, up_n (by simp), up_n (by simp), up_k (by omega), up_n (by simp), lcp_o (by simp)]) (fun u hu => by rw [comF, up_n (by simp), up_k (by omega), up_n (by simp), up_n (by simp), lcp_o (by simp)]) (fun u hu => by rw [m6, lcp_out (by omega)]) (fun u hu => ?_) ⟨p, z + 1, q1, by omega, ?_, ?_, ?_, fun k hk' => ?_⟩
  · rw [m6]
    by_cases e : 256 * (72 + (8 * t + z)) ≤ u ∧ u < 256 * (72 + (8 * t + z)) + 256
    · have := lcp_in (M := M) (l := f) (m := 72 + (8 * t + z)) (t := u - 256 * (72 + (8 * t + z))) (by omega)
      rw [show 256 * (72 + (8 * t + z)) + (u - 256 * (72 + (8 * t + z))) = u by omega] at this
      rw [this]
      exact h.2.2.2.2.2.2.2.2 _ (by omega)
    · rw [lcp_out e]
      exact h.2.2.2.2.2.2.2.2 u hu
  · rw [putF, up_k (by decide), up_n (by simp), up_n (by simp), up_n (by simp), cpyF_n (by simp) (by simp)]
    exact q3
  · rw [putF, up_s, nI_1]
  · rw [comF, up_s]
  · by_cases e : k = z
    · subst e
      refine ⟨?_, ?_, ?_, ?_, ?_⟩
      · intro u hu
        rw [m6, lcp_in hu, putF, up_n (by simp), up_n (by simp), up_n (by simp), up_n (by simp), tg_cpy hu]
        exact hlab u hu
      · rw [comF, up_n (by simp), up_n (by simp), up_n (by simp), up_s, putF, up_n (by simp), up_k (by decide), up_s]
      · rw [comF, up_n (by simp), up_n (by simp), up_s, putF, up_n (by simp), up_k (by decide), up_k (by decide), up_s]
      · rw [comF, up_n (by simp), up_s, putF, up_n (by simp), up_s]
      · rw [show putF X t f v kd p k (8, t, (p + k) % 8) 3 = kd by rw [putF, up_n (by simp), up_s], show putF X t f v kd p k (8, t, (p + k) % 8) 2 = v by rw [putF, up_n (by simp), up_k (by decide), up_s]]
        exact hk
    · have hne : ¬ (p + k) % 8 = (p + z) % 8 := by omega
      refine (q6 k (by omega)).cg (hX _ (by simp) (by simp) (by simp) (by simp [hne])) (fun n _ _ => by rw [hX _ (by simp) (by simp [hne]) (by simp) (by simp)]) (fun u hu => by rw [m6, lcp_out (by omega)]) ?_ ?_ ?_
      · rw [comF, up_n (by simp), up_n (by simp), up_n (by simp), up_k (by omega), lcp_o (by simp)]
      · rw [comF, up_n (by simp), up_n (by simp), up_k (by omega), up_n (by simp), lcp_o (by simp)]
      · rw [comF, up_n (by simp), up_k (by omega), up_n (by simp), up_n (by simp), lcp_o (by simp)]
theorem fx_put {f t p z : Nat} {v kd : Int32} : FX X (putF X t f v kd p z) := fx_u (fx_u (fx_u (fx_u (fx_cpy fx_r) (leb rfl)) (leb rfl)) (leb rfl)) (leb rfl)
theorem fm_com {f t z : Nat} {v kd : Int32} : FM M (comF M f t v kd z) := fm_u (fm_u (fm_u (fm_u (fm_lcp fm_r) (leb rfl)) (leb rfl)) (leb rfl)) (leb rfl)
/-- the queue's numbers are the class's own -/
theorem q_same {p z p' z' : Nat} (h1 : qR X M s p z) (h2 : qR X M' s p' z') : p' = p ∧ z' = z := by
  obtain ⟨a1, a2, a3, a4, -⟩ := h1
  obtain ⟨b1, b2, b3, b4, -⟩ := h2
  exact ⟨(nI_eq (by omega) (by omega)).mp (b3.symm.trans a3), (nI_eq (by omega) (by omega)).mp (b4.symm.trans a4)⟩
theorem Rel.q (hR : Rel T X M) (hR' : Rel T X M') (hs : s < 8) {p z : Nat} (h : qR X M s p z) : qR X M' s p z := by
  obtain ⟨p', z', h'⟩ := hR'.2.2.2.2.2.1 s hs
  obtain ⟨rfl, rfl⟩ := q_same h h'
  exact h'
theorem s_post (K : EK) (d : Nat) (a b v : Int32) (h0 : ∃ M, Rel T X M) : Sim K d mX5_post mX6_post [rI a, rI b, rI v] T T X := by
  obtain ⟨M0, hR0⟩ := h0
  by_cases h : inR a 8 = true ∧ inR b 8 = true
  · obtain ⟨f, hf, rfl⟩ := inR_t (N := 8) (by decide) h.1
    obtain ⟨t, ht, rfl⟩ := inR_t (N := 8) (by decide) h.2
    obtain ⟨p, z, hq⟩ := hR0.2.2.2.2.2.1 t ht
    by_cases hz : z < 8
    · refine ⟨_, _, (c_post K (d + 5) X hf ht v hq.1 hq.2.2.1 hq.2.2.2.1 hz).to (by rw [nI_1]) rfl, fx_put, fun M hR => ?_⟩
      have hq' := hR0.q hR ht hq
      exact ⟨_, m_post K (d + 5) M hf ht v hq'.2.2.2.2.1 hz (fun u hu => bR_isB (hR.2.2.1 f hf).1 (by omega) (by omega)), fm_com, hR.put hf ht hq' hz (Or.inl rfl)⟩
    · have hz : z = 8 := by have := hq.2.1; omega
      refine ⟨_, _, c_postFull K (d + 5) X hf ht v hq.1 hq.2.2.1 hq.2.2.2.1 hz, fx_r, fun M hR => ?_⟩
      exact ⟨_, m_postFull K (d + 5) M hf ht v (hR0.q hR ht hq).2.2.2.2.1 hz, fm_r, hR⟩
  · exact ⟨_, _, c_postN K (d + 5) X a b v h, fx_r, fun M hR => ⟨_, m_postN K (d + 5) M a b v h, fm_r, hR⟩⟩
end SIM3
