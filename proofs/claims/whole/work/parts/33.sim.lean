/-! EACH CALL: class and reference answer alike, and the relation holds again -/
def FX (X X' : DT) : Prop := ∀ a : AD, 14 ≤ a.1 → X' a = X a
def FM (M M' : DT) : Prop := ∀ a : AD, a.1 < 14 → M' a = M a
def Sim (K : EK) (d : Nat) (cx cm : MT) (av : List AV) (T T' : Nat × Nat) (X : DT) : Prop := ∃ (r : Int32) (X' : DT), CF K cx (d + 7) (rR (0, 0, 0) :: av) X (some (rI r)) X' ∧ FX X X' ∧ ∀ M, Rel T X M → ∃ M', CF K cm (d + 7) (rR (14, 0, 0) :: av) M (some (rI r)) M' ∧ FM M M' ∧ Rel T' X' M'
section SIM
variable {X X' M M' : DT} {T : Nat × Nat} {s : Nat}
theorem fx_r : FX X X := fun _ _ => rfl
theorem fm_r : FM M M := fun _ _ => rfl
theorem fx_u (h : FX X X') {b : AD} (hb : b.1 < 14) {k : Nat} {v : Int32} : FX X (up X' b k v) := fun a ha => by
  rw [up_n (fun e => by rw [e] at ha; omega)]
  exact h a ha
theorem fm_u (h : FM M M') {b : AD} (hb : 14 ≤ b.1) {k : Nat} {v : Int32} : FM M (up M' b k v) := fun a ha => by
  rw [up_n (fun e => by rw [e] at ha; omega)]
  exact h a ha
theorem fx_add {i j n : Nat} (h : FX X X') : FX X (addD X' i j n) := fun a ha => by rw [addD_o (by omega) (by omega)]; exact h a ha
theorem fx_rem {i j n : Nat} (h : FX X X') : FX X (remD X' i j n) := fun a ha => by rw [remD_o (by omega) (by omega)]; exact h a ha
theorem fx_cpy {i j i2 j2 : Nat} (h : FX X X') : FX X (cpyF X' i j i2 j2) := fun a ha => by rw [cpyF_o (by omega) (by omega)]; exact h a ha
theorem fx_chg {i j : Nat} {t b m : Int32} (h : FX X X') : FX X (chgD X' i j t b m) := fun a ha => by rw [chgD_o (by omega) (by omega)]; exact h a ha
theorem fm_lcp {l m n : Nat} (h : FM M M') : FM M (lcp M' l m n) := fun a ha => by
  rw [lcp_o (fun e => by rw [e] at ha; exact absurd ha (by decide))]
  exact h a ha
theorem fm_zr {b : AD} {lo n : Nat} (hb : 14 ≤ b.1) (h : FM M M') : FM M (zr M' b lo n) := fun a ha => by
  rw [zr_o (fun e => by rw [e] at ha; omega)]
  exact h a ha
theorem s_poke (K : EK) (d : Nat) (a b u v w : Int32) : Sim K d mX5_poke mX6_poke [rI a, rI b, rI u, rI v, rI w] T T X := by
  by_cases h : inR a 8 = true ∧ inR b 126 = true
  · obtain ⟨s, hs, rfl⟩ := inR_t (N := 8) (by decide) h.1
    obtain ⟨n, hn, rfl⟩ := inR_t (N := 126) (by decide) h.2
    exact ⟨_, _, c_poke K (d + 6) X hs hn u v w, fx_u (fx_u (fx_u fx_r (leb rfl)) (leb rfl)) (leb rfl), fun M hR => ⟨_, m_poke K (d + 5) M hs hn u v w, fm_u (fm_u (fm_u fm_r (leb rfl)) (leb rfl)) (leb rfl), ((hR.mem hs (p := n) (by omega) u).mem hs (p := n + 1) (by omega) v).mem hs (p := n + 2) (by omega) w⟩⟩
  · exact ⟨_, _, c_pokeN K (d + 6) X a b u v w h, fx_r, fun M hR => ⟨_, m_pokeN K (d + 5) M a b u v w h, fm_r, hR⟩⟩
theorem s_start (K : EK) (d : Nat) (a : Int32) : Sim K d mX5_start mX6_start [rI a] T T X := by
  by_cases h : ∃ s, s < 8 ∧ a = nI s ∧ X (2, s, 0) 4 = 0
  · obtain ⟨s, hs, rfl, h0⟩ := h
    exact ⟨_, _, c_start K (d + 6) X hs h0, fx_u fx_r (leb rfl), fun M hR => ⟨_, m_start K (d + 5) M hs (by rw [(hR.2.1 s hs).2.2.1]; exact h0), fm_u fm_r (leb rfl), hR.int (k := 4) (by decide) (by decide) hs 1⟩⟩
  · exact ⟨_, _, c_startN K (d + 6) X a (fun s hs e h0 => h ⟨s, hs, e, h0⟩), fx_r, fun M hR => ⟨_, m_startN K (d + 5) M a (fun s hs e h0 => h ⟨s, hs, e, by rw [← (hR.2.1 s hs).2.2.1]; exact h0⟩), fm_r, hR⟩⟩
theorem s_counter (K : EK) (d : Nat) (a b : Int32) : Sim K d mX5_counter mX6_counter [rI a, rI b] T T X := by
  by_cases h : inR a 8 = true ∧ inR b 33 = true
  · obtain ⟨s, hs, rfl⟩ := inR_t (N := 8) (by decide) h.1
    obtain ⟨n, hn, rfl⟩ := inR_t (N := 33) (by decide) h.2
    by_cases hl : nI n < X (2, s, 0) 6
    · exact ⟨_, _, c_counter2 K (d + 6) X hs hn hl, fx_r, fun M hR => ⟨_, m_counter2 K (d + 5) M hs hn (by rw [(hR.2.1 s hs).2.2.2.2.1]; exact hl), fm_r, hR⟩⟩
    · refine ⟨_, _, c_counter K (d + 6) X hs hn hl, fx_u fx_r (leb rfl), fun M hR => ⟨_, (m_counter K (d + 5) M hs hn (by rw [(hR.2.1 s hs).2.2.2.2.1]; exact hl)).to (by rw [(hR.2.1 s hs).2.2.2.2.1]) rfl, fm_u fm_r (leb rfl), hR.ctr hs (by omega)⟩⟩
  · exact ⟨_, _, c_counterN K (d + 6) X a b h, fx_r, fun M hR => ⟨_, m_counterN K (d + 5) M a b h, fm_r, hR⟩⟩
theorem th_eq (hR : Rel T X M) (t : Int32) : mthB M t = thB X t := by
  by_cases hq : inR t 256 = true
  · obtain ⟨n, hn, rfl⟩ := inR_t (N := 256) (by decide) hq
    rw [mthB_nI hn, thB_nI hn, (hR.2.1 (n / 32) (by omega)).2.2.2.2.1]
  · have hf : inR t 256 = false := by simpa using hq
    rw [mthB, thB, hf, Bool.false_and, Bool.false_and]
theorem Rel.labAdd (h : Rel T X M) (hs : s < 8) {n : Nat} (hn : n < 256) (ht : tg (X (5, s, 0)) n = false) (hc : cntN (tg (X (5, s, 0))) 256 < 16) : Rel T (addD X s 0 n) (up M (15, 6, 0) (256 * s + n) 1) :=
  h.lab_gen hs (fun a h4 h5 => addD_n h4 h5) (fun a ha => up_n ha) (fun u hu => by rw [up_k (by omega)]) ((h.2.2.1 s hs).1.add hn) ((h.2.2.1 s hs).2.add hn ht hc)
theorem Rel.labRem (h : Rel T X M) (hs : s < 8) {n : Nat} (hn : n < 256) (ht : tg (X (5, s, 0)) n = true) : Rel T (remD X s 0 n) (up M (15, 6, 0) (256 * s + n) 0) :=
  h.lab_gen hs (fun a h4 h5 => remD_n h4 h5) (fun a ha => up_n ha) (fun u hu => by rw [up_k (by omega)]) ((h.2.2.1 s hs).1.rem hn) ((h.2.2.1 s hs).2.rem hn ht)
theorem Rel.capAdd (h : Rel T X M) (hs : s < 8) {q n : Nat} (hq : q < 2) (hn : n < 256) (ht : tg (X (5, s, 1 + q)) n = false) (hc : cntN (tg (X (5, s, 1 + q))) 256 < 40) : Rel T (addD X s (1 + q) n) (up M (15, 7, 0) (256 * (8 * q + s) + n) 1) :=
  h.cap_gen hs hq (fun a h4 h5 => addD_n h4 h5) (fun a ha => up_n ha) (fun u hu => by rw [up_k (by omega)]) ((h.2.2.2.1 s hs q hq).1.add hn) ((h.2.2.2.1 s hs q hq).2.add hn ht hc)
theorem Rel.capRem (h : Rel T X M) (hs : s < 8) {q n : Nat} (hq : q < 2) (hn : n < 256) (ht : tg (X (5, s, 1 + q)) n = true) : Rel T (remD X s (1 + q) n) (up M (15, 7, 0) (256 * (8 * q + s) + n) 0) :=
  h.cap_gen hs hq (fun a h4 h5 => remD_n h4 h5) (fun a ha => up_n ha) (fun u hu => by rw [up_k (by omega)]) ((h.2.2.2.1 s hs q hq).1.rem hn) ((h.2.2.2.1 s hs q hq).2.rem hn ht)
theorem bR.z {a l i j n : Nat} (h : bR X M a l i j) (hn : n < 256) (ht : tg (X (5, i, j)) n = false) : M (15, a, 0) (256 * l + n) = 0 := by rw [h n hn, ht]; rfl
theorem bR.o {a l i j n : Nat} (h : bR X M a l i j) (hn : n < 256) (ht : tg (X (5, i, j)) n = true) : M (15, a, 0) (256 * l + n) = 1 := by rw [h n hn, ht]; rfl
theorem cnt_eq {a l i j : Nat} (h : bR X M a l i j) : cntN (fun t => !decide (M (15, a, 0) (256 * l + t) = 0)) 256 = cntN (tg (X (5, i, j))) 256 := cntN_cg (fun t ht => by rw [h t ht, bI_nz])
theorem s_tag (K : EK) (d : Nat) (a t b : Int32) (hb : isB b) (h0 : ∃ M, Rel T X M) : Sim K d mX5_tag mX6_tag [rI a, rI t, rI b] T T X := by
  by_cases h : inR a 8 = true ∧ thB X t = true
  · obtain ⟨s, hs, rfl⟩ := inR_t (N := 8) (by decide) h.1
    obtain ⟨n, hn, rfl⟩ := inR_t (N := 256) (by decide) (thB_in h.2)
    obtain ⟨M0, hR0⟩ := h0
    have hz := (hR0.2.2.1 s hs).2
    have hcx := c_tag K (d + 4) X hs (nI n) b h.2
    have hm : ∀ M, Rel T X M → mthB M (nI n) = true := fun M hR => by rw [th_eq hR]; exact h.2
    rcases chg_cases (n := n) (b := b) hz (by decide) hn hb with ⟨e1, e2, e3, e4, e5⟩ | ⟨e1, e2, e3, e4, e5⟩ | ⟨e1, e2, e4, e5⟩ | ⟨e1, e2, e4, e5⟩ | ⟨e1, e2, e4, e5⟩
    · subst e1
      refine ⟨_, _, hcx.to (by rw [show chgR X s 0 (nI n) 1 16 = (-1) from e4]) e5, fx_r, fun M hR => ?_⟩
      have hbr := (hR.2.2.1 s hs).1
      exact ⟨_, m_tag K (d + 5) M hs 1 (hm M hR) (m_setTagN K (d + 5) (by omega) hn M 1 (Or.inr rfl) (by decide) (hbr.z hn e2) (by rw [hbr.mn]; exact e3)), fm_r, hR⟩
    · subst e1
      refine ⟨_, _, hcx.to (by rw [show chgR X s 0 (nI n) 1 16 = _ from e4]) e5, fx_add fx_r, fun M hR => ?_⟩
      have hbr := (hR.2.2.1 s hs).1
      have hR' := hR.labAdd hs hn e2 e3
      exact ⟨_, m_tag K (d + 5) M hs 1 (hm M hR) ((m_setTag K (d + 5) (by omega) hn M 1 (Or.inr rfl) (Or.inr (Or.inr (by rw [hbr.mn]; omega)))).to (by rw [(hR'.2.2.1 s hs).1.mn, cnt_add hn e2]) rfl), fm_u fm_r (leb rfl), hR'⟩
    · subst e1
      refine ⟨_, _, hcx.to (by rw [show chgR X s 0 (nI n) 1 16 = _ from e4]) e5, fx_r, fun M hR => ?_⟩
      have hbr := (hR.2.2.1 s hs).1
      exact ⟨_, m_tag K (d + 5) M hs 1 (hm M hR) ((m_setTag K (d + 5) (by omega) hn M 1 (Or.inr rfl) (Or.inr (Or.inl (by rw [hbr.o hn e2]; decide)))).to (by rw [up_id (hbr.o hn e2), hbr.mn]) (up_id (hbr.o hn e2))), fm_r, hR⟩
    · subst e1
      refine ⟨_, _, hcx.to (by rw [show chgR X s 0 (nI n) 0 16 = _ from e4]) e5, fx_rem fx_r, fun M hR => ?_⟩
      have hR' := hR.labRem hs hn e2
      exact ⟨_, m_tag K (d + 5) M hs 0 (hm M hR) ((m_setTag K (d + 5) (by omega) hn M 0 (Or.inl rfl) (Or.inl rfl)).to (by rw [(hR'.2.2.1 s hs).1.mn, ← cnt_rem hn e2, Nat.add_sub_cancel]) rfl), fm_u fm_r (leb rfl), hR'⟩
    · subst e1
      refine ⟨_, _, hcx.to (by rw [show chgR X s 0 (nI n) 0 16 = _ from e4]) e5, fx_r, fun M hR => ?_⟩
      have hbr := (hR.2.2.1 s hs).1
      exact ⟨_, m_tag K (d + 5) M hs 0 (hm M hR) ((m_setTag K (d + 5) (by omega) hn M 0 (Or.inl rfl) (Or.inl rfl)).to (by rw [up_id (hbr.z hn e2), hbr.mn]) (up_id (hbr.z hn e2))), fm_r, hR⟩
  · exact ⟨_, _, c_tagN K (d + 4) X a t b h, fx_r, fun M hR => ⟨_, m_tagN K (d + 5) M a t b (by rw [th_eq hR]; exact h), fm_r, hR⟩⟩
theorem s_capq (K : EK) (d : Nat) {q n : Nat} (hs : s < 8) (hq : q < 2) (hn : n < 256) {b : Int32} (hb : isB b) (ht : thB X (nI n) = true) (h0 : ∃ M, Rel T X M)
    (hcx : CF K mX5_capability (d + 7) [rR (0, 0, 0), rI (nI s), rI (nI q), rI (nI n), rI b] X (some (rI (chgR X s (1 + q) (nI n) b 40))) (chgD X s (1 + q) (nI n) b 40)) : Sim K d mX5_capability mX6_capability [rI (nI s), rI (nI q), rI (nI n), rI b] T T X := by
  obtain ⟨M0, hR0⟩ := h0
  have hz := (hR0.2.2.2.1 s hs q hq).2
  have hm : ∀ M, Rel T X M → mthB M (nI n) = true := fun M hR => by rw [th_eq hR]; exact ht
  rcases chg_cases (n := n) (b := b) hz (by decide) hn hb with ⟨e1, e2, e3, e4, e5⟩ | ⟨e1, e2, e3, e4, e5⟩ | ⟨e1, e2, e4, e5⟩ | ⟨e1, e2, e4, e5⟩ | ⟨e1, e2, e4, e5⟩
  · subst e1
    refine ⟨_, _, hcx.to (by rw [show chgR X s (1 + q) (nI n) 1 40 = (-1) from e4]) e5, fx_r, fun M hR => ?_⟩
    have hbr := (hR.2.2.2.1 s hs q hq).1
    exact ⟨_, m_capabilityF K (d + 5) M hs hq hn 1 (Or.inr rfl) (hm M hR) (by decide) (hbr.z hn e2) (by rw [hbr.cn]; exact e3), fm_r, hR⟩
  · subst e1
    refine ⟨_, _, hcx.to (by rw [show chgR X s (1 + q) (nI n) 1 40 = _ from e4]) e5, fx_add fx_r, fun M hR => ?_⟩
    have hbr := (hR.2.2.2.1 s hs q hq).1
    have hR' := hR.capAdd hs hq hn e2 e3
    exact ⟨_, (m_capability K (d + 5) M hs hq hn 1 (Or.inr rfl) (hm M hR) (Or.inr (Or.inr (by rw [hbr.cn]; omega)))).to (by rw [(hR'.2.2.2.1 s hs q hq).1.cn, cnt_add hn e2]) rfl, fm_u fm_r (leb rfl), hR'⟩
  · subst e1
    refine ⟨_, _, hcx.to (by rw [show chgR X s (1 + q) (nI n) 1 40 = _ from e4]) e5, fx_r, fun M hR => ?_⟩
    have hbr := (hR.2.2.2.1 s hs q hq).1
    exact ⟨_, (m_capability K (d + 5) M hs hq hn 1 (Or.inr rfl) (hm M hR) (Or.inr (Or.inl (by rw [hbr.o hn e2]; decide)))).to (by rw [up_id (hbr.o hn e2), hbr.cn]) (up_id (hbr.o hn e2)), fm_r, hR⟩
  · subst e1
    refine ⟨_, _, hcx.to (by rw [show chgR X s (1 + q) (nI n) 0 40 = _ from e4]) e5, fx_rem fx_r, fun M hR => ?_⟩
    have hR' := hR.capRem hs hq hn e2
    exact ⟨_, (m_capability K (d + 5) M hs hq hn 0 (Or.inl rfl) (hm M hR) (Or.inl rfl)).to (by rw [(hR'.2.2.2.1 s hs q hq).1.cn, ← cnt_rem hn e2, Nat.add_sub_cancel]) rfl, fm_u fm_r (leb rfl), hR'⟩
  · subst e1
    refine ⟨_, _, hcx.to (by rw [show chgR X s (1 + q) (nI n) 0 40 = _ from e4]) e5, fx_r, fun M hR => ?_⟩
    have hbr := (hR.2.2.2.1 s hs q hq).1
    exact ⟨_, (m_capability K (d + 5) M hs hq hn 0 (Or.inl rfl) (hm M hR) (Or.inl rfl)).to (by rw [up_id (hbr.z hn e2), hbr.cn]) (up_id (hbr.z hn e2)), fm_r, hR⟩
theorem kind_in {k : Int32} : (k = 0 ∨ k = 1) ↔ inR k 2 = true := by
  constructor
  · rintro (rfl | rfl) <;> decide
  · intro h
    obtain ⟨n, hn, rfl⟩ := inR_t (by decide) h
    rcases (show n = 0 ∨ n = 1 by omega) with rfl | rfl
    · exact Or.inl rfl
    · exact Or.inr rfl
theorem s_capability (K : EK) (d : Nat) (a k t b : Int32) (hb : isB b) (h0 : ∃ M, Rel T X M) : Sim K d mX5_capability mX6_capability [rI a, rI k, rI t, rI b] T T X := by
  by_cases h : inR a 8 = true ∧ (k = 0 ∨ k = 1) ∧ thB X t = true
  · obtain ⟨s, hs, rfl⟩ := inR_t (N := 8) (by decide) h.1
    obtain ⟨n, hn, rfl⟩ := inR_t (N := 256) (by decide) (thB_in h.2.2)
    rcases h.2.1 with rfl | rfl
    · exact s_capq K d (q := 0) hs (by decide) hn hb h.2.2 h0 (c_capability0 K (d + 4) X hs (nI n) b h.2.2)
    · exact s_capq K d (q := 1) hs (by decide) hn hb h.2.2 h0 (c_capability1 K (d + 4) X hs (nI n) b h.2.2)
  · exact ⟨_, _, c_capabilityN K (d + 4) X a k t b h, fx_r, fun M hR => ⟨_, m_capabilityN K (d + 5) M a k t b (by rw [th_eq hR, ← kind_in]; exact h), fm_r, hR⟩⟩
end SIM
