section SIM2
variable {X X' M M' : DT} {T : Nat × Nat} {s : Nat}
theorem thr_eq (hR : Rel T X M) {n : Nat} (hn : n < 64) : mthr M n = thr X n := by rw [mthr, thr, (hR.2.2.2.2.1 n hn).1]
theorem fc_eq (hR : Rel T X M) (k i : Int32) : mfcB M k i = fcB X k i := by
  by_cases h1 : inR k 64 = true
  · obtain ⟨n, hn, rfl⟩ := inR_t (N := 64) (by decide) h1
    by_cases h2 : inR i 8 = true
    · obtain ⟨e, he, rfl⟩ := inR_t (N := 8) (by decide) h2
      rw [mfcB_nI hn he, fcB_nI hn he, thr_eq hR hn]
    · have h2 : inR i 8 = false := by simpa using h2
      rw [mfcB_i h2, fcB_i h2]
  · have h1 : inR k 64 = false := by simpa using h1
    rw [mfcB_k h1, fcB_k h1]
theorem fc_cases (k i : Int32) : fcB X k i = false ∨ ∃ n e, n < 64 ∧ e < 8 ∧ k = nI n ∧ i = nI e ∧ thr X n = true := by
  cases h : fcB X k i with
  | false => exact Or.inl rfl
  | true => exact Or.inr (fcB_t h)
theorem thr_ne {n : Nat} (h : thr X n = true) : ¬ X (12, n / 8, n % 8) 2 = 0 := by simpa [thr] using h
theorem Rel.fill (h : Rel T X M) {n e : Nat} (hn : n < 64) (he : e < 8) (ht : thr X n = true) (v : Int32) : Rel T (up X (13, n / 8, n % 8) e v) (up M (15, 9, 0) (8 * n + e) v) := by
  have hf := h.2.2.2.2.1 n hn
  refine h.fil_gen hn (fun a _ _ _ h13 => up_n h13) (fun a _ _ h9 => up_n h9) (fun u _ => by rw [up_n (by simp)]) (fun u hu => by rw [up_k (by omega)]) (fun u _ => by rw [up_n (by simp)]) (fun u h1 h2 => by rw [up_n (by simp)]; exact h.2.2.2.2.2.2.2.2 u (by omega)) ?_
  obtain ⟨a, b, c, d, g⟩ := hf
  refine ⟨by rw [up_n (by simp), up_n (by simp)]; exact a, b.cg (up_n (by simp)) (by rw [up_n (by simp)]), fun hq => ⟨(c (thr_ne ht)).1.cg (up_n (by simp)) (fun t _ => by rw [up_n (by simp)]), fun e' he' => ?_⟩, fun hq => absurd (by rw [up_n (by simp)] at hq; exact hq) (thr_ne ht), by rw [up_n (by simp)]; exact g⟩
  by_cases ee : e' = e
  · subst ee; rw [up_s, up_s]
  · rw [up_k (by omega), up_k ee]
    exact (c (thr_ne ht)).2 e' he'
theorem s_fill (K : EK) (d : Nat) (k i v : Int32) : Sim K d mX5_fill mX6_fill [rI k, rI i, rI v] T T X := by
  rcases fc_cases (X := X) k i with h | ⟨n, e, hn, he, rfl, rfl, h⟩
  · exact ⟨_, _, c_fillN K (d + 5) X k i v h, fx_r, fun M hR => ⟨_, m_fillN K (d + 5) M k i v (by rw [fc_eq hR]; exact h), fm_r, hR⟩⟩
  · exact ⟨_, _, c_fill K (d + 5) X hn he v h, fx_u fx_r (leb rfl), fun M hR => ⟨_, (m_fill K (d + 5) M hn he v (by rw [thr_eq hR hn]; exact h)).to (by rw [((hR.2.2.2.2.1 n hn).2.2.1 (thr_ne h)).2 e he]) rfl, fm_u fm_r (leb rfl), hR.fill hn he h v⟩⟩
theorem s_content (K : EK) (d : Nat) (k i : Int32) : Sim K d mX5_content mX6_content [rI k, rI i] T T X := by
  rcases fc_cases (X := X) k i with h | ⟨n, e, hn, he, rfl, rfl, h⟩
  · exact ⟨_, _, c_contentN K (d + 5) X k i h, fx_r, fun M hR => ⟨_, m_contentN K (d + 5) M k i (by rw [fc_eq hR]; exact h), fm_r, hR⟩⟩
  · exact ⟨_, _, c_content K (d + 5) X hn he h, fx_r, fun M hR => ⟨_, (m_content K (d + 5) M hn he (by rw [thr_eq hR hn]; exact h)).to (by rw [((hR.2.2.2.2.1 n hn).2.2.1 (thr_ne h)).2 e he]) rfl, fm_r, hR⟩⟩
theorem s_fileTags (K : EK) (d : Nat) (k : Int32) : Sim K d mX5_fileTags mX6_fileTags [rI k] T T X := by
  by_cases h1 : inR k 64 = true
  · obtain ⟨n, hn, rfl⟩ := inR_t (N := 64) (by decide) h1
    cases h : thr X n with
    | false => exact ⟨_, _, c_fileTagsN K (d + 5) X hn h, fx_r, fun M hR => ⟨_, m_fileTagsN K (d + 6) M hn (by rw [thr_eq hR hn]; exact h), fm_r, hR⟩⟩
    | true =>
      refine ⟨_, _, c_fileTags K (d + 5) X hn h, fx_r, fun M hR => ⟨_, (m_fileTags K (d + 6) M hn (by rw [thr_eq hR hn]; exact h)).to ?_ rfl, fm_r, hR⟩⟩
      have hf := hR.2.2.2.2.1 n hn
      rw [(hf.2.2.1 (thr_ne h)).1.mn, hf.2.1.1]
  · have h1 : inR k 64 = false := by simpa using h1
    exact ⟨_, _, c_fileTagsO K (d + 5) X k h1, fx_r, fun M hR => ⟨_, m_fileTagsO K (d + 6) M k h1, fm_r, hR⟩⟩
theorem s_cell (K : EK) (d : Nat) (a b : Int32) : Sim K d mX5_cell mX6_cell [rI a, rI b] T T X := by
  by_cases h : inR a 8 = true ∧ inR b 128 = true
  · obtain ⟨s, hs, rfl⟩ := inR_t (N := 8) (by decide) h.1
    obtain ⟨n, hn, rfl⟩ := inR_t (N := 128) (by decide) h.2
    exact ⟨_, _, c_cell K (d + 6) X hs hn, fx_r, fun M hR => ⟨_, (m_cell K (d + 5) M hs hn).to (by rw [hR.1 s hs n hn]) rfl, fm_r, hR⟩⟩
  · exact ⟨_, _, c_cellN K (d + 6) X a b h, fx_r, fun M hR => ⟨_, m_cellN K (d + 5) M a b h, fm_r, hR⟩⟩
theorem s_mayFlow (K : EK) (d : Nat) (a b : Int32) : Sim K d mX5_mayFlow mX6_mayFlow [rI a, rI b] T T X := by
  by_cases h : inR a 8 = true ∧ inR b 8 = true
  · obtain ⟨f, hf, rfl⟩ := inR_t (N := 8) (by decide) h.1
    obtain ⟨t, ht, rfl⟩ := inR_t (N := 8) (by decide) h.2
    exact ⟨_, _, c_mayFlow K (d + 5) X hf ht, fx_r, fun M hR => ⟨_, (m_mayFlow K (d + 5) M hf ht).to (by rw [subM_eq (hR.2.2.1 f hf).1 (hR.2.2.1 t ht).1]) rfl, fm_r, hR⟩⟩
  · exact ⟨_, _, c_mayFlowN K (d + 5) X a b h, fx_r, fun M hR => ⟨_, m_mayFlowN K (d + 5) M a b h, fm_r, hR⟩⟩
theorem nthL_neg {f : Nat → Int32} {x : Int32} : ∀ (n k : Nat) (c : Nat), k + n = 256 → c ≤ k → x < 0 → nthL f n k (nI c) x = -1
  | 0, _, _, _, _, _ => rfl
  | n + 1, k, c, hk, hc, hx => by
    unfold nthL
    have hne : ¬ nI c = x := fun e => absurd hx (by rw [← e]; exact nI_pos (by omega))
    rw [if_neg hne, nI_1, nthL_neg n (k + 1) (c + 1) (by omega) (by omega) hx, nthL_neg n (k + 1) c (by omega) (by omega) hx]
    split <;> rfl
theorem nthL_big {f : Nat → Int32} {x : Nat} (hx : x < 2 ^ 31) : ∀ (n k c : Nat), k + n = 256 → c = cntN (tg f) k → cntN (tg f) 256 ≤ x → nthL f n k (nI c) (nI x) = -1
  | 0, _, _, _, _, _ => rfl
  | n + 1, k, c, hk, hc, hle => by
    have mono : ∀ m r, cntN (tg f) m ≤ cntN (tg f) (m + r) := by
      intro m r
      induction r with
      | zero => exact Nat.le_refl _
      | succ r ih => exact Nat.le_trans ih (show cntN (tg f) (m + r) ≤ cntN (tg f) (m + r) + (if tg f (m + r) = true then 1 else 0) from Nat.le_add_right _ _)
    have hck := cntN_le (tg f) k
    have h1 : cntN (tg f) (k + 1) ≤ x := Nat.le_trans (by have := mono (k + 1) n; rwa [show k + 1 + n = 256 by omega] at this) hle
    have h2 : cntN (tg f) (k + 1) = cntN (tg f) k + (if tg f k = true then 1 else 0) := rfl
    unfold nthL
    split
    · rename_i ht
      rw [ht, if_pos rfl] at h2
      rw [if_neg (fun e => by rw [nI_eq (by omega) hx] at e; omega), nI_1]
      exact nthL_big hx n (k + 1) (c + 1) (by omega) (by omega) hle
    · rename_i ht
      rw [if_neg ht] at h2
      exact nthL_big hx n (k + 1) c (by omega) (by omega) hle
theorem tagAt_eq {i j mx : Nat} (hz : szR X i j mx) (x : Int32) : tagAtF X i j x = nthL (X (5, i, j)) 256 0 0 x := by
  unfold tagAtF
  by_cases h0 : x < 0
  · rw [if_pos h0]
    exact (nthL_neg 256 0 0 rfl (Nat.le_refl 0) h0).symm
  · rw [if_neg h0]
    by_cases h1 : x < X (4, i, j) 1
    · rw [if_pos h1]
    · rw [if_neg h1]
      obtain ⟨n, hn, rfl⟩ := nI_of h0
      rw [hz.1] at h1
      have hle : cntN (tg (X (5, i, j))) 256 ≤ n := by
        have hc := cntN_le (tg (X (5, i, j))) 256
        rcases Nat.lt_or_ge n (cntN (tg (X (5, i, j))) 256) with q | q
        · exact absurd (nI_lt q (by omega)) h1
        · exact q
      exact (nthL_big hn 256 0 0 rfl rfl hle).symm
theorem s_label (K : EK) (d : Nat) (a x : Int32) (h0 : ∃ M, Rel T X M) : Sim K d mX5_label mX6_label [rI a, rI x] T T X := by
  by_cases h : inR a 8 = true
  · obtain ⟨s, hs, rfl⟩ := inR_t (N := 8) (by decide) h
    exact ⟨_, _, c_label K (d + 5) X hs x, fx_r, fun M hR => ⟨_, (m_label K (d + 5) hs M x).to (by rw [nth_eq (hR.2.2.1 s hs).1 256 0 0 x rfl, tagAt_eq (hR.2.2.1 s hs).2]) rfl, fm_r, hR⟩⟩
  · have h : inR a 8 = false := by simpa using h
    exact ⟨_, _, c_labelN K (d + 5) X a x h, fx_r, fun M hR => ⟨_, m_labelN K (d + 5) M a x h, fm_r, hR⟩⟩
theorem out_f {w : Nat} (hw : w ≤ 64) {x : Int32} (h : x < 0 ∨ nI w ≤ x) : inB x 0 (nI w - 1) = false := by
  cases hq : inB x 0 (nI w - 1) with
  | false => rfl
  | true =>
    simp [inB] at hq
    obtain ⟨n, hn, rfl⟩ := nI_of (x := x) (Int32.not_lt.mpr hq.1)
    rcases h with h | h
    · exact absurd h (nI_pos hn)
    · have hwn := (nI_leI (by omega) hn).mp h
      rcases Nat.eq_zero_or_pos w with e | e
      · subst e
        have : (nI 0 - 1 : Int32) = -1 := by decide
        rw [this] at hq
        exact absurd (Int32.le_trans hq.1 hq.2) (by decide)
      · obtain ⟨y, rfl⟩ : ∃ y, w = y + 1 := ⟨w - 1, by omega⟩
        rw [nI_pred] at hq
        have := (nI_leI hn (by omega)).mp hq.2
        omega
theorem out_t {w e : Nat} (hw : w ≤ 64) (he : e < w) : inB (nI e) 0 (nI w - 1) = true := by
  obtain ⟨y, rfl⟩ : ∃ y, w = y + 1 := ⟨w - 1, by omega⟩
  rw [nI_pred]
  exact inB_nI (lo := 0) (Nat.zero_le _) (by omega) (by omega)
theorem out_cases {w : Nat} (hw : w ≤ 64) (x : Int32) : (x < 0 ∨ nI w ≤ x) ∨ ∃ e, e < w ∧ x = nI e := by
  by_cases h1 : x < 0
  · exact Or.inl (Or.inl h1)
  · by_cases h2 : nI w ≤ x
    · exact Or.inl (Or.inr h2)
    · obtain ⟨e, he, rfl⟩ := inR_n (N := w) h1 h2 (by omega)
      exact Or.inr ⟨e, he, rfl⟩
theorem s_output (K : EK) (d : Nat) (a x : Int32) (h0 : ∃ M, Rel T X M) : Sim K d mX5_output mX6_output [rI a, rI x] T T X := by
  obtain ⟨M0, hR0⟩ := h0
  by_cases h : inR a 8 = true
  · obtain ⟨s, hs, rfl⟩ := inR_t (N := 8) (by decide) h
    obtain ⟨w, hw, hx2, -, -⟩ := hR0.2.2.2.2.2.2.1 s hs
    have hm : ∀ M, Rel T X M → M (15, 14, 0) s = nI w ∧ ∀ e, e < w → M (15, 15, 0) (64 * s + e) = X (10, s, 0) e := by
      intro M hR
      obtain ⟨w', hw', h1, h2, h3⟩ := hR.2.2.2.2.2.2.1 s hs
      have : w' = w := (nI_eq (by omega) (by omega)).mp (h1.symm.trans hx2)
      subst this
      exact ⟨h2, fun e he => (h3 e he).1⟩
    rcases out_cases hw x with ho | ⟨e, he, rfl⟩
    · refine ⟨_, _, c_outputN K (d + 5) X (nI s) x (fun s' hs' e => ?_), fx_r, fun M hR => ⟨_, m_outputF K (d + 4) M hs x (by rw [(hm M hR).1]; exact out_f hw ho), fm_r, hR⟩⟩
      have : s' = s := (nI_eq (by omega) (by omega)).mp e.symm
      subst this
      rw [hx2]
      exact ho
    · exact ⟨_, _, c_output K (d + 5) X hs hx2 he hw, fx_r, fun M hR => ⟨_, (m_output K (d + 4) M hs (by omega) (by rw [(hm M hR).1]; exact out_t hw he)).to (by rw [(hm M hR).2 e he]) rfl, fm_r, hR⟩⟩
  · have h : inR a 8 = false := by simpa using h
    refine ⟨_, _, c_outputN K (d + 5) X a x (fun s hs e => ?_), fx_r, fun M hR => ⟨_, m_outputN K (d + 4) M a x h, fm_r, hR⟩⟩
    rw [e, inR_nI (by decide) hs] at h
    cases h
theorem s_outputTags (K : EK) (d : Nat) (a x : Int32) (h0 : ∃ M, Rel T X M) : Sim K d mX5_outputTags mX6_outputTags [rI a, rI x] T T X := by
  obtain ⟨M0, hR0⟩ := h0
  by_cases h : inR a 8 = true
  · obtain ⟨s, hs, rfl⟩ := inR_t (N := 8) (by decide) h
    obtain ⟨w, hw, hx2, -, -⟩ := hR0.2.2.2.2.2.2.1 s hs
    have hm : ∀ M, Rel T X M → M (15, 14, 0) s = nI w ∧ ∀ e, e < w → M (15, 16, 0) (64 * s + e) = X (11, s, 0) e := by
      intro M hR
      obtain ⟨w', hw', h1, h2, h3⟩ := hR.2.2.2.2.2.2.1 s hs
      have : w' = w := (nI_eq (by omega) (by omega)).mp (h1.symm.trans hx2)
      subst this
      exact ⟨h2, fun e he => (h3 e he).2⟩
    rcases out_cases hw x with ho | ⟨e, he, rfl⟩
    · refine ⟨_, _, c_outputTagsN K (d + 5) X (nI s) x (fun s' hs' e => ?_), fx_r, fun M hR => ⟨_, m_outputTagsF K (d + 4) M hs x (by rw [(hm M hR).1]; exact out_f hw ho), fm_r, hR⟩⟩
      have : s' = s := (nI_eq (by omega) (by omega)).mp e.symm
      subst this
      rw [hx2]
      exact ho
    · exact ⟨_, _, c_outputTags K (d + 5) X hs hx2 he hw, fx_r, fun M hR => ⟨_, (m_outputTags K (d + 4) M hs (by omega) (by rw [(hm M hR).1]; exact out_t hw he)).to (by rw [(hm M hR).2 e he]) rfl, fm_r, hR⟩⟩
  · have h : inR a 8 = false := by simpa using h
    refine ⟨_, _, c_outputTagsN K (d + 5) X a x (fun s hs e => ?_), fx_r, fun M hR => ⟨_, m_outputTagsN K (d + 4) M a x h, fm_r, hR⟩⟩
    rw [e, inR_nI (by decide) hs] at h
    cases h
end SIM2
