/-! LABELS: bits, counts, subsets -/
theorem cntN_cg {p q : Nat → Bool} : ∀ {n : Nat}, (∀ m, m < n → p m = q m) → cntN p n = cntN q n
  | 0, _ => rfl
  | n + 1, h => by
    unfold cntN
    rw [cntN_cg (fun m hm => h m (by omega)), h n (by omega)]
theorem allN_cg {p q : Nat → Bool} : ∀ {n : Nat}, (∀ m, m < n → p m = q m) → allN p n = allN q n
  | 0, _ => rfl
  | n + 1, h => by
    unfold allN
    rw [allN_cg (fun m hm => h m (by omega)), h n (by omega)]
theorem cntN_add {p q : Nat → Bool} {t : Nat} (hp : p t = false) (hq : ∀ m, q m = (p m || decide (m = t))) : ∀ {n : Nat}, cntN q n = cntN p n + (if t < n then 1 else 0)
  | 0 => by simp [cntN]
  | n + 1 => by
    unfold cntN
    rw [cntN_add hp hq, hq n]
    by_cases e : n = t
    · subst e
      have h1 : ¬ n < n := by omega
      have h2 : n < n + 1 := by omega
      simp [h1, h2, hp]
    · have h1 : (n < t + 0 ∨ t < n) := by omega
      by_cases h2 : t < n
      · have h3 : t < n + 1 := by omega
        simp only [e, decide_false, Bool.or_false, h2, h3, if_true]
        omega
      · have h3 : ¬ t < n + 1 := by omega
        simp only [e, decide_false, Bool.or_false, h2, h3, if_false]
        omega
theorem bI_nz {b : Bool} : (!decide (bI b = 0)) = b := by cases b <;> rfl
theorem bI_inj {a b : Bool} (h : bI a = bI b) : a = b := by cases a <;> cases b <;> simp_all [bI]
theorem bR.lb {X M : DT} {l i j t : Nat} (h : bR X M 6 l i j) (ht : t < 256) : lbB M l t = tg (X (5, i, j)) t := by rw [lbB, h t ht, bI_nz]
theorem bR.cp {X M : DT} {l i j t : Nat} (h : bR X M 7 l i j) (ht : t < 256) : cpB M l t = tg (X (5, i, j)) t := by rw [cpB, h t ht, bI_nz]
theorem bR.mn {X M : DT} {l i j : Nat} (h : bR X M 6 l i j) : mnF M l = cntN (tg (X (5, i, j))) 256 := cntN_cg (fun _ hm => h.lb hm)
theorem bR.cn {X M : DT} {l i j : Nat} (h : bR X M 7 l i j) : cnF M l = cntN (tg (X (5, i, j))) 256 := cntN_cg (fun _ hm => h.cp hm)
theorem subE_iff {f g h : Nat → Int32} : subE f g h = true ↔ ∀ t, t < 256 → tg f t = true → (tg g t || tg h t) = true := by
  simp only [subE, List.all_eq_true, List.mem_range, decide_eq_true_eq, bit_sub]
  constructor
  · intro H t ht h1
    exact H (t / 32) (by omega) (t % 32) (by omega) h1
  · intro H k hk m hm h1
    have := H (32 * k + m) (by omega)
    unfold tg at this
    rw [show (32 * k + m) / 32 = k by omega, show (32 * k + m) % 32 = m by omega] at this
    exact this h1
theorem subB_iff {f g : Nat → Int32} : subB f g = true ↔ ∀ t, t < 256 → tg f t = true → tg g t = true := by
  rw [subB, subE_iff]
  constructor
  · intro H t ht h1
    have := H t ht h1
    rwa [Bool.or_self] at this
  · intro H t ht h1
    rw [Bool.or_self]
    exact H t ht h1
theorem subM_eq {X M : DT} {l m i j i2 j2 : Nat} (h1 : bR X M 6 l i j) (h2 : bR X M 6 m i2 j2) : subM M l m = subB (X (5, i, j)) (X (5, i2, j2)) := by
  rw [Bool.eq_iff_iff, subB_iff]
  show allN (subP M l m) 256 = true ↔ _
  rw [allN_iff]
  constructor
  · intro H t ht hq
    have := H t ht
    rw [subP, h1.lb ht, h2.lb ht, hq] at this
    simpa using this
  · intro H t ht
    rw [subP, h1.lb ht, h2.lb ht]
    cases hq : tg (X (5, i, j)) t with
    | false => rfl
    | true => rw [H t ht hq]; rfl
theorem nth_eq {X M : DT} {l i j : Nat} (h : bR X M 6 l i j) : ∀ (n k : Nat) (c x : Int32), k + n = 256 → mnth M l n k c x = nthL (X (5, i, j)) n k c x
  | 0, _, _, _, _ => rfl
  | n + 1, k, c, x, hk => by
    unfold mnth nthL
    rw [h.lb (by omega), nth_eq h n (k + 1) (c + 1) x (by omega), nth_eq h n (k + 1) c x (by omega)]
/-! adding and taking away a tag -/
theorem addD_5 {X : DT} {i j n : Nat} : addD X i j n (5, i, j) = upd (X (5, i, j)) (n / 32) (X (5, i, j) (n / 32) ||| (1 <<< nI (n % 32))) := by
  rw [addD, up_n (by simp)]
  funext k
  simp [up]
theorem remD_5 {X : DT} {i j n : Nat} : remD X i j n (5, i, j) = upd (X (5, i, j)) (n / 32) (X (5, i, j) (n / 32) &&& ((1 <<< nI (n % 32)) ^^^ (-1))) := by
  rw [remD, up_n (by simp)]
  funext k
  simp [up]
theorem addD_4 {X : DT} {i j n : Nat} : addD X i j n (4, i, j) 1 = X (4, i, j) 1 + 1 := by rw [addD, up_s]
theorem remD_4 {X : DT} {i j n : Nat} : remD X i j n (4, i, j) 1 = X (4, i, j) 1 - 1 := by rw [remD, up_s]
theorem addD_n {X : DT} {i j n : Nat} {a : AD} (h4 : a ≠ (4, i, j)) (h5 : a ≠ (5, i, j)) : addD X i j n a = X a := by rw [addD, up_n h4, up_n h5]
theorem remD_n {X : DT} {i j n : Nat} {a : AD} (h4 : a ≠ (4, i, j)) (h5 : a ≠ (5, i, j)) : remD X i j n a = X a := by rw [remD, up_n h4, up_n h5]
theorem tg_add {X : DT} {i j n m : Nat} : tg (addD X i j n (5, i, j)) m = (tg (X (5, i, j)) m || decide (m = n)) := by
  unfold tg
  rw [addD_5]
  by_cases e : m / 32 = n / 32
  · rw [e]
    have : upd (X (5, i, j)) (n / 32) (X (5, i, j) (n / 32) ||| (1 <<< nI (n % 32))) (n / 32) = X (5, i, j) (n / 32) ||| (1 <<< nI (n % 32)) := by simp [upd]
    rw [this, bit_or (by omega) (by omega)]
    congr 1
    have : (m % 32 = n % 32) ↔ m = n := by omega
    simp only [this]
  · have : upd (X (5, i, j)) (n / 32) (X (5, i, j) (n / 32) ||| (1 <<< nI (n % 32))) (m / 32) = X (5, i, j) (m / 32) := by simp [upd, e]
    rw [this]
    have : ¬ m = n := fun q => e (by rw [q])
    simp [this]
theorem tg_rem {X : DT} {i j n m : Nat} : tg (remD X i j n (5, i, j)) m = (tg (X (5, i, j)) m && !decide (m = n)) := by
  unfold tg
  rw [remD_5]
  by_cases e : m / 32 = n / 32
  · rw [e]
    have : upd (X (5, i, j)) (n / 32) (X (5, i, j) (n / 32) &&& ((1 <<< nI (n % 32)) ^^^ (-1))) (n / 32) = X (5, i, j) (n / 32) &&& ((1 <<< nI (n % 32)) ^^^ (-1)) := by simp [upd]
    rw [this, bit_clr (by omega) (by omega)]
    congr 1
    have : (m % 32 = n % 32) ↔ m = n := by omega
    simp only [this]
  · have : upd (X (5, i, j)) (n / 32) (X (5, i, j) (n / 32) &&& ((1 <<< nI (n % 32)) ^^^ (-1))) (m / 32) = X (5, i, j) (m / 32) := by simp [upd, e]
    rw [this]
    have : ¬ m = n := fun q => e (by rw [q])
    simp [this]
theorem cnt_add {X : DT} {i j n : Nat} (hn : n < 256) (h : tg (X (5, i, j)) n = false) : cntN (tg (addD X i j n (5, i, j))) 256 = cntN (tg (X (5, i, j))) 256 + 1 := by
  rw [cntN_add (t := n) h (fun m => tg_add), if_pos hn]
theorem cnt_rem {X : DT} {i j n : Nat} (hn : n < 256) (h : tg (X (5, i, j)) n = true) : cntN (tg (remD X i j n (5, i, j))) 256 + 1 = cntN (tg (X (5, i, j))) 256 := by
  have := cntN_add (p := tg (remD X i j n (5, i, j))) (q := tg (X (5, i, j))) (t := n) (by rw [tg_rem]; simp) (fun m => by
    rw [tg_rem]
    by_cases e : m = n
    · subst e; simp [h]
    · simp [e]) (n := 256)
  rw [this, if_pos hn]
theorem szR.add {X : DT} {i j mx n : Nat} (h : szR X i j mx) (hn : n < 256) (ht : tg (X (5, i, j)) n = false) (hc : cntN (tg (X (5, i, j))) 256 < mx) : szR (addD X i j n) i j mx := by
  unfold szR
  rw [cnt_add hn ht, addD_4, h.1, nI_1]
  exact ⟨rfl, hc⟩
theorem szR.rem {X : DT} {i j mx n : Nat} (h : szR X i j mx) (hn : n < 256) (ht : tg (X (5, i, j)) n = true) : szR (remD X i j n) i j mx := by
  have e := cnt_rem hn ht
  unfold szR
  rw [remD_4, h.1, ← e, nI_pred]
  have := h.2
  exact ⟨rfl, by omega⟩
theorem bR.add {X M : DT} {a l i j n : Nat} (h : bR X M a l i j) (hn : n < 256) : bR (addD X i j n) (up M (15, a, 0) (256 * l + n) 1) a l i j := by
  intro t ht
  rw [tg_add, up_at]
  by_cases e : t = n
  · subst e; simp [bI]
  · have : ¬ (256 * l + t = 256 * l + n) := by omega
    simp [e, this]
    exact h t ht
theorem bR.rem {X M : DT} {a l i j n : Nat} (h : bR X M a l i j) (hn : n < 256) : bR (remD X i j n) (up M (15, a, 0) (256 * l + n) 0) a l i j := by
  intro t ht
  rw [tg_rem, up_at]
  by_cases e : t = n
  · subst e; simp [bI]
  · have : ¬ (256 * l + t = 256 * l + n) := by omega
    simp [e, this]
    exact h t ht
theorem up_id {D : DT} {a : AD} {k : Nat} {x : Int32} (h : D a k = x) : up D a k x = D := by
  funext a' k'
  rw [up_at]
  by_cases e : a' = a ∧ k' = k
  · rw [if_pos e, e.1, e.2, h]
  · rw [if_neg e]
theorem hasF_tg {f : Nat → Int32} {n : Nat} (hn : n < 256) : hasF f (nI n) = tg f n := hasF_nI hn
/-- what 'change' does -/
theorem chg_cases {X : DT} {i j mx n : Nat} {b : Int32} (hz : szR X i j mx) (hmx : mx ≤ 256) (hn : n < 256) (hb : isB b) :
    (b = 1 ∧ tg (X (5, i, j)) n = false ∧ cntN (tg (X (5, i, j))) 256 = mx ∧ chgR X i j (nI n) b (nI mx) = (-1) ∧ chgD X i j (nI n) b (nI mx) = X) ∨
    (b = 1 ∧ tg (X (5, i, j)) n = false ∧ cntN (tg (X (5, i, j))) 256 < mx ∧ chgR X i j (nI n) b (nI mx) = nI (cntN (tg (X (5, i, j))) 256 + 1) ∧ chgD X i j (nI n) b (nI mx) = addD X i j n) ∨
    (b = 1 ∧ tg (X (5, i, j)) n = true ∧ chgR X i j (nI n) b (nI mx) = nI (cntN (tg (X (5, i, j))) 256) ∧ chgD X i j (nI n) b (nI mx) = X) ∨
    (b = 0 ∧ tg (X (5, i, j)) n = true ∧ chgR X i j (nI n) b (nI mx) = nI (cntN (tg (X (5, i, j))) 256 - 1) ∧ chgD X i j (nI n) b (nI mx) = remD X i j n) ∨
    (b = 0 ∧ tg (X (5, i, j)) n = false ∧ chgR X i j (nI n) b (nI mx) = nI (cntN (tg (X (5, i, j))) 256) ∧ chgD X i j (nI n) b (nI mx) = X) := by
  have hh := hasF_tg (f := X (5, i, j)) hn
  obtain ⟨z1, z2⟩ := hz
  have hc := cntN_le (tg (X (5, i, j))) 256
  rcases hb with rfl | rfl
  · cases hq : tg (X (5, i, j)) n with
    | true =>
      rw [hq] at hh
      refine Or.inr (Or.inr (Or.inr (Or.inl ⟨rfl, rfl, ?_, ?_⟩)))
      · have e := cnt_rem hn hq
        simp only [chgR, if_true]
        rw [remF_had hn hh, remD_4, z1, ← e, nI_pred, Nat.add_sub_cancel]
      · simp only [chgD, if_true]
        exact remF_had hn hh
    | false =>
      rw [hq] at hh
      refine Or.inr (Or.inr (Or.inr (Or.inr ⟨rfl, rfl, ?_, ?_⟩)))
      · simp only [chgR, if_true]
        rw [remF_not hh, z1]
      · simp only [chgD, if_true]
        exact remF_not hh
  · have h10 : ¬ ((1 : Int32) = 0) := by decide
    cases hq : tg (X (5, i, j)) n with
    | true =>
      rw [hq] at hh
      refine Or.inr (Or.inr (Or.inl ⟨rfl, rfl, ?_, ?_⟩))
      · simp only [chgR, h10, if_false, hh, if_true]
        exact z1
      · simp only [chgD, h10, if_false, hh, if_true]
    | false =>
      rw [hq] at hh
      by_cases hlt : cntN (tg (X (5, i, j))) 256 < mx
      · refine Or.inr (Or.inl ⟨rfl, rfl, hlt, ?_, ?_⟩)
        · simp only [chgR, h10, if_false, hh, Bool.false_eq_true, z1, nI_lt hlt (show mx < 2 ^ 31 by omega), if_true]
          rw [addF_new hn hh, addD_4, z1, nI_1]
        · simp only [chgD, h10, if_false, hh, Bool.false_eq_true, z1, nI_lt hlt (show mx < 2 ^ 31 by omega), if_true]
          exact addF_new hn hh
      · have hnl : ¬ nI (cntN (tg (X (5, i, j))) 256) < nI mx := nI_nlt (by omega) (by omega)
        refine Or.inl ⟨rfl, rfl, by omega, ?_, ?_⟩
        · simp only [chgR, h10, if_false, hh, Bool.false_eq_true, z1, hnl]
        · simp only [chgD, h10, if_false, hh, Bool.false_eq_true, z1, hnl]
