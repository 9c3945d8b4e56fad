/-! THE RELATION between the class's data X and the reference's data M -/
def bR (X M : DT) (n l i j : Nat) : Prop := ∀ t, t < 256 → M (15, n, 0) (256 * l + t) = bI (tg (X (5, i, j)) t)
def szR (X : DT) (i j mx : Nat) : Prop := X (4, i, j) 1 = nI (cntN (tg (X (5, i, j))) 256) ∧ cntN (tg (X (5, i, j))) 256 ≤ mx
def R_mem (X M : DT) : Prop := ∀ s, s < 8 → ∀ p, p < 128 → M (15, 0, 0) (128 * s + p) = X (3, s, 0) p
def R_int (X M : DT) : Prop := ∀ s, s < 8 → M (15, 1, 0) s = X (2, s, 0) 2 ∧ M (15, 2, 0) s = X (2, s, 0) 3 ∧ M (15, 3, 0) s = X (2, s, 0) 4 ∧ M (15, 4, 0) s = X (2, s, 0) 5 ∧ M (15, 5, 0) s = X (2, s, 0) 6 ∧ ∃ c, c ≤ 32 ∧ X (2, s, 0) 6 = nI c
def R_lab (X M : DT) : Prop := ∀ s, s < 8 → bR X M 6 s s 0 ∧ szR X s 0 16
def R_cap (X M : DT) : Prop := ∀ s, s < 8 → ∀ q, q < 2 → bR X M 7 (8 * q + s) s (1 + q) ∧ szR X s (1 + q) 40
def fR (X M : DT) (n : Nat) : Prop := M (15, 8, 0) n = X (12, n / 8, n % 8) 2 ∧ szR X (n / 8) (11 + n % 8) 16 ∧ (¬ X (12, n / 8, n % 8) 2 = 0 → bR X M 6 (8 + n) (n / 8) (11 + n % 8) ∧ ∀ e, e < 8 → M (15, 9, 0) (8 * n + e) = X (13, n / 8, n % 8) e) ∧ (X (12, n / 8, n % 8) 2 = 0 → (∀ k, k < 8 → X (5, n / 8, 11 + n % 8) k = 0) ∧ ∀ e, e < 8 → X (13, n / 8, n % 8) e = 0) ∧ isB (X (12, n / 8, n % 8) 2)
def R_fil (X M : DT) : Prop := ∀ n, n < 64 → fR X M n
/-- place k of the reference's queue is place q of the class's -/
def mq (X M : DT) (s q k : Nat) : Prop := bR X M 6 (72 + (8 * s + k)) s (3 + q) ∧ M (15, 11, 0) (8 * s + k) = X (8, s, q) 2 ∧ M (15, 12, 0) (8 * s + k) = X (8, s, q) 1 ∧ M (15, 13, 0) (8 * s + k) = X (8, s, q) 3 ∧ (X (8, s, q) 3 = (-1) ∨ ∃ u v, u < 2 ∧ v < 256 ∧ X (8, s, q) 3 = nI u ∧ X (8, s, q) 2 = nI v)
def qR (X M : DT) (s p z : Nat) : Prop := p < 8 ∧ z ≤ 8 ∧ X (6, s, 0) 1 = nI p ∧ X (6, s, 0) 2 = nI z ∧ M (15, 10, 0) s = nI z ∧ ∀ k, k < z → mq X M s ((p + k) % 8) k
def R_que (X M : DT) : Prop := ∀ s, s < 8 → ∃ p z, qR X M s p z
def R_out (X M : DT) : Prop := ∀ s, s < 8 → ∃ w, w ≤ 64 ∧ X (2, s, 0) 14 = nI w ∧ M (15, 14, 0) s = nI w ∧ ∀ e, e < w → M (15, 15, 0) (64 * s + e) = X (10, s, 0) e ∧ M (15, 16, 0) (64 * s + e) = X (11, s, 0) e
def R_trn (T : Nat × Nat) (X M : DT) : Prop := X (0, 0, 0) 2 = nI T.1 ∧ M (14, 0, 0) 17 = nI T.2
def R_B (M : DT) : Prop := ∀ u, u < 35072 → isB (M (15, 6, 0) u)
def Rel (T : Nat × Nat) (X M : DT) : Prop := R_mem X M ∧ R_int X M ∧ R_lab X M ∧ R_cap X M ∧ R_fil X M ∧ R_que X M ∧ R_out X M ∧ R_trn T X M ∧ R_B M
section CG
variable {X X' M M' : DT} {T : Nat × Nat}
theorem bR.cg {n l i j : Nat} (h : bR X M n l i j) (hX : X' (5, i, j) = X (5, i, j)) (hM : ∀ t, t < 256 → M' (15, n, 0) (256 * l + t) = M (15, n, 0) (256 * l + t)) : bR X' M' n l i j := fun t ht => by rw [hX, hM t ht]; exact h t ht
theorem szR.cg {i j mx : Nat} (h : szR X i j mx) (hX : X' (5, i, j) = X (5, i, j)) (h4 : X' (4, i, j) 1 = X (4, i, j) 1) : szR X' i j mx := by
  unfold szR
  rw [hX, h4]
  exact h
theorem R_mem.cg (h : R_mem X M) (hX : ∀ s, X' (3, s, 0) = X (3, s, 0)) (hM : M' (15, 0, 0) = M (15, 0, 0)) : R_mem X' M' := by
  intro s hs p hp
  rw [hX, hM]
  exact h s hs p hp
theorem R_int.cg (h : R_int X M) (hX : ∀ s k, 2 ≤ k → k ≤ 6 → X' (2, s, 0) k = X (2, s, 0) k) (hM : ∀ n, 1 ≤ n → n ≤ 5 → M' (15, n, 0) = M (15, n, 0)) : R_int X' M' := by
  intro s hs
  rw [hX s 2 (by decide) (by decide), hX s 3 (by decide) (by decide), hX s 4 (by decide) (by decide), hX s 5 (by decide) (by decide), hX s 6 (by decide) (by decide), hM 1 (by decide) (by decide), hM 2 (by decide) (by decide), hM 3 (by decide) (by decide), hM 4 (by decide) (by decide), hM 5 (by decide) (by decide)]
  exact h s hs
theorem R_lab.cg (h : R_lab X M) (hX : ∀ s, s < 8 → X' (5, s, 0) = X (5, s, 0)) (h4 : ∀ s, s < 8 → X' (4, s, 0) 1 = X (4, s, 0) 1) (hM : ∀ u, u < 2048 → M' (15, 6, 0) u = M (15, 6, 0) u) : R_lab X' M' := fun s hs => ⟨(h s hs).1.cg (hX s hs) (fun t ht => hM _ (by omega)), (h s hs).2.cg (hX s hs) (h4 s hs)⟩
theorem R_cap.cg (h : R_cap X M) (hX : ∀ s q, s < 8 → q < 2 → X' (5, s, 1 + q) = X (5, s, 1 + q)) (h4 : ∀ s q, s < 8 → q < 2 → X' (4, s, 1 + q) 1 = X (4, s, 1 + q) 1) (hM : M' (15, 7, 0) = M (15, 7, 0)) : R_cap X' M' := fun s hs q hq => ⟨(h s hs q hq).1.cg (hX s q hs hq) (fun t ht => by rw [hM]), (h s hs q hq).2.cg (hX s q hs hq) (h4 s q hs hq)⟩
theorem fR.cg {n : Nat} (h : fR X M n) (h12 : X' (12, n / 8, n % 8) 2 = X (12, n / 8, n % 8) 2) (h13 : X' (13, n / 8, n % 8) = X (13, n / 8, n % 8)) (h5 : X' (5, n / 8, 11 + n % 8) = X (5, n / 8, 11 + n % 8)) (h4 : X' (4, n / 8, 11 + n % 8) 1 = X (4, n / 8, 11 + n % 8) 1) (h8 : M' (15, 8, 0) n = M (15, 8, 0) n) (h9 : ∀ e, e < 8 → M' (15, 9, 0) (8 * n + e) = M (15, 9, 0) (8 * n + e)) (h6 : ∀ t, t < 256 → M' (15, 6, 0) (256 * (8 + n) + t) = M (15, 6, 0) (256 * (8 + n) + t)) : fR X' M' n := by
  obtain ⟨a, b, c, d, g⟩ := h
  refine ⟨by rw [h8, h12]; exact a, b.cg h5 h4, fun hq => ?_, fun hq => ?_, by rw [h12]; exact g⟩
  · rw [h12] at hq
    exact ⟨(c hq).1.cg h5 h6, fun e he => by rw [h13, h9 e he]; exact (c hq).2 e he⟩
  · rw [h12] at hq
    rw [h5, h13]
    exact d hq
theorem R_fil.cg (h : R_fil X M) (h12 : ∀ i j, X' (12, i, j) 2 = X (12, i, j) 2) (h13 : ∀ i j, X' (13, i, j) = X (13, i, j)) (h5 : ∀ i j, i < 8 → j < 8 → X' (5, i, 11 + j) = X (5, i, 11 + j)) (h4 : ∀ i j, i < 8 → j < 8 → X' (4, i, 11 + j) 1 = X (4, i, 11 + j) 1) (h8 : M' (15, 8, 0) = M (15, 8, 0)) (h9 : M' (15, 9, 0) = M (15, 9, 0)) (h6 : ∀ u, 2048 ≤ u → u < 18432 → M' (15, 6, 0) u = M (15, 6, 0) u) : R_fil X' M' := fun n hn => (h n hn).cg (h12 _ _) (h13 _ _) (h5 _ _ (by omega) (by omega)) (h4 _ _ (by omega) (by omega)) (by rw [h8]) (fun e _ => by rw [h9]) (fun t ht => h6 _ (by omega) (by omega))
theorem mq.cg {s q k : Nat} (h : mq X M s q k) (h5 : X' (5, s, 3 + q) = X (5, s, 3 + q)) (h8 : ∀ n, 1 ≤ n → n ≤ 3 → X' (8, s, q) n = X (8, s, q) n) (h6 : ∀ t, t < 256 → M' (15, 6, 0) (256 * (72 + (8 * s + k)) + t) = M (15, 6, 0) (256 * (72 + (8 * s + k)) + t)) (h11 : M' (15, 11, 0) (8 * s + k) = M (15, 11, 0) (8 * s + k)) (h12 : M' (15, 12, 0) (8 * s + k) = M (15, 12, 0) (8 * s + k)) (h13 : M' (15, 13, 0) (8 * s + k) = M (15, 13, 0) (8 * s + k)) : mq X' M' s q k := by
  unfold mq
  rw [h11, h12, h13, h8 1 (by decide) (by decide), h8 2 (by decide) (by decide), h8 3 (by decide) (by decide)]
  exact ⟨h.1.cg h5 h6, h.2⟩
theorem qR.cg {s p z : Nat} (hs : s < 8) (h : qR X M s p z) (x6 : ∀ k, X' (6, s, 0) k = X (6, s, 0) k) (x8 : ∀ q, X' (8, s, q) = X (8, s, q)) (x5 : ∀ q, q < 8 → X' (5, s, 3 + q) = X (5, s, 3 + q)) (m10 : M' (15, 10, 0) s = M (15, 10, 0) s) (m11 : ∀ k, k < 8 → M' (15, 11, 0) (8 * s + k) = M (15, 11, 0) (8 * s + k)) (m12 : ∀ k, k < 8 → M' (15, 12, 0) (8 * s + k) = M (15, 12, 0) (8 * s + k)) (m13 : ∀ k, k < 8 → M' (15, 13, 0) (8 * s + k) = M (15, 13, 0) (8 * s + k)) (m6 : ∀ k t, k < 8 → t < 256 → M' (15, 6, 0) (256 * (72 + (8 * s + k)) + t) = M (15, 6, 0) (256 * (72 + (8 * s + k)) + t)) : qR X' M' s p z := by
  obtain ⟨a, b, c, d, e, f⟩ := h
  refine ⟨a, b, by rw [x6]; exact c, by rw [x6]; exact d, by rw [m10]; exact e, fun k hk => ?_⟩
  exact (f k hk).cg (x5 _ (Nat.mod_lt _ (by decide))) (fun n _ _ => by rw [x8]) (fun t ht => m6 k t (by omega) ht) (m11 k (by omega)) (m12 k (by omega)) (m13 k (by omega))
theorem R_que.cg (h : R_que X M) (x6 : ∀ s, X' (6, s, 0) = X (6, s, 0)) (x8 : ∀ s q, X' (8, s, q) = X (8, s, q)) (x5 : ∀ s q, s < 8 → q < 8 → X' (5, s, 3 + q) = X (5, s, 3 + q)) (m : ∀ n, 10 ≤ n → n ≤ 13 → M' (15, n, 0) = M (15, n, 0)) (m6 : ∀ u, 18432 ≤ u → u < 34816 → M' (15, 6, 0) u = M (15, 6, 0) u) : R_que X' M' := by
  intro s hs
  obtain ⟨p, z, hq⟩ := h s hs
  exact ⟨p, z, hq.cg hs (fun k => by rw [x6]) (x8 s) (fun q hq => x5 s q hs hq) (by rw [m 10 (by decide) (by decide)]) (fun k _ => by rw [m 11 (by decide) (by decide)]) (fun k _ => by rw [m 12 (by decide) (by decide)]) (fun k _ => by rw [m 13 (by decide) (by decide)]) (fun k t hk ht => m6 _ (by omega) (by omega))⟩
theorem R_out.cg (h : R_out X M) (x2 : ∀ s, X' (2, s, 0) 14 = X (2, s, 0) 14) (x10 : ∀ s, X' (10, s, 0) = X (10, s, 0)) (x11 : ∀ s, X' (11, s, 0) = X (11, s, 0)) (m : ∀ n, 14 ≤ n → n ≤ 16 → M' (15, n, 0) = M (15, n, 0)) : R_out X' M' := by
  intro s hs
  rw [x2, x10, x11, m 14 (by decide) (by decide), m 15 (by decide) (by decide), m 16 (by decide) (by decide)]
  exact h s hs
theorem R_trn.cg (h : R_trn T X M) (x0 : X' (0, 0, 0) 2 = X (0, 0, 0) 2) (m : M' (14, 0, 0) 17 = M (14, 0, 0) 17) : R_trn T X' M' := by
  unfold R_trn
  rw [x0, m]
  exact h
theorem R_B.cg (h : R_B M) (m : ∀ u, u < 35072 → M' (15, 6, 0) u = M (15, 6, 0) u ∨ isB (M' (15, 6, 0) u)) : R_B M' := fun u hu => by
  rcases m u hu with e | e
  · rw [e]; exact h u hu
  · exact e
end CG
/-! LENSES: small changes on both sides -/
section LENS
variable {X M : DT} {T : Nat × Nat} {s : Nat}
theorem Rel.int (h : Rel T X M) {k : Nat} (hk2 : 2 ≤ k) (hk5 : k ≤ 5) (hs : s < 8) (v : Int32) : Rel T (up X (2, s, 0) k v) (up M (15, k - 1, 0) s v) := by
  obtain ⟨h1, h2, h3, h4, h5, h6, h7, h8, h9⟩ := h
  have mne : ∀ n, n ≠ k - 1 → up M (15, k - 1, 0) s v (15, n, 0) = M (15, n, 0) := fun n hn => up_n (by simp [hn])
  have xk : ∀ s' n, n ≠ k → up X (2, s, 0) k v (2, s', 0) n = X (2, s', 0) n := fun s' n hn => by rw [up_at, if_neg (fun e => hn e.2)]
  refine ⟨h1.cg (fun _ => up_n (by simp)) (mne 0 (by omega)), fun s' hs' => ?_, h3.cg (fun _ _ => up_n (by simp)) (fun _ _ => by rw [up_n (by simp)]) (fun u _ => by rw [mne 6 (by omega)]), h4.cg (fun _ _ _ _ => up_n (by simp)) (fun _ _ _ _ => by rw [up_n (by simp)]) (mne 7 (by omega)), h5.cg (fun _ _ => by rw [up_n (by simp)]) (fun _ _ => up_n (by simp)) (fun _ _ _ _ => up_n (by simp)) (fun _ _ _ _ => by rw [up_n (by simp)]) (mne 8 (by omega)) (mne 9 (by omega)) (fun u _ _ => by rw [mne 6 (by omega)]), h6.cg (fun _ => up_n (by simp)) (fun _ _ => up_n (by simp)) (fun _ _ _ _ => up_n (by simp)) (fun n _ _ => mne n (by omega)) (fun u _ _ => by rw [mne 6 (by omega)]), h7.cg (fun s' => xk s' 14 (by omega)) (fun _ => up_n (by simp)) (fun _ => up_n (by simp)) (fun n _ _ => mne n (by omega)), h8.cg (by rw [up_n (by simp)]) (by rw [up_n (by simp)]), h9.cg (fun u _ => Or.inl (by rw [mne 6 (by omega)]))⟩
  obtain ⟨a1, a2, a3, a4, a5, c, hc, a6⟩ := h2 s' hs'
  have key : ∀ n, 2 ≤ n → n ≤ 6 → M (15, n - 1, 0) s' = X (2, s', 0) n → up M (15, k - 1, 0) s v (15, n - 1, 0) s' = up X (2, s, 0) k v (2, s', 0) n := by
    intro n hn2 hn6 he
    rw [up_at, up_at]
    by_cases e : n = k
    · subst e
      by_cases e2 : s' = s
      · subst e2; simp
      · simp [e2, he]
    · have : ¬ n - 1 = k - 1 := by omega
      simp [e, this, he]
  exact ⟨key 2 (by decide) (by decide) a1, key 3 (by decide) (by decide) a2, key 4 (by decide) (by decide) a3, key 5 (by decide) (by decide) a4, key 6 (by decide) (by decide) a5, c, hc, by rw [xk s' 6 (by omega)]; exact a6⟩
theorem Rel.ctr (h : Rel T X M) (hs : s < 8) {c : Nat} (hc : c ≤ 32) : Rel T (up X (2, s, 0) 6 (nI c)) (up M (15, 5, 0) s (nI c)) := by
  obtain ⟨h1, h2, h3, h4, h5, h6, h7, h8, h9⟩ := h
  have mne : ∀ n, n ≠ 5 → up M (15, 5, 0) s (nI c) (15, n, 0) = M (15, n, 0) := fun n hn => up_n (by simp [hn])
  have xk : ∀ s' n, n ≠ 6 → up X (2, s, 0) 6 (nI c) (2, s', 0) n = X (2, s', 0) n := fun s' n hn => by rw [up_at, if_neg (fun e => hn e.2)]
  refine ⟨h1.cg (fun _ => up_n (by simp)) (mne 0 (by omega)), fun s' hs' => ?_, h3.cg (fun _ _ => up_n (by simp)) (fun _ _ => by rw [up_n (by simp)]) (fun u _ => by rw [mne 6 (by omega)]), h4.cg (fun _ _ _ _ => up_n (by simp)) (fun _ _ _ _ => by rw [up_n (by simp)]) (mne 7 (by omega)), h5.cg (fun _ _ => by rw [up_n (by simp)]) (fun _ _ => up_n (by simp)) (fun _ _ _ _ => up_n (by simp)) (fun _ _ _ _ => by rw [up_n (by simp)]) (mne 8 (by omega)) (mne 9 (by omega)) (fun u _ _ => by rw [mne 6 (by omega)]), h6.cg (fun _ => up_n (by simp)) (fun _ _ => up_n (by simp)) (fun _ _ _ _ => up_n (by simp)) (fun n _ _ => mne n (by omega)) (fun u _ _ => by rw [mne 6 (by omega)]), h7.cg (fun s' => xk s' 14 (by omega)) (fun _ => up_n (by simp)) (fun _ => up_n (by simp)) (fun n _ _ => mne n (by omega)), h8.cg (by rw [up_n (by simp)]) (by rw [up_n (by simp)]), h9.cg (fun u _ => Or.inl (by rw [mne 6 (by omega)]))⟩
  obtain ⟨a1, a2, a3, a4, a5, c', hc', a6⟩ := h2 s' hs'
  refine ⟨by rw [mne 1 (by omega), xk s' 2 (by omega)]; exact a1, by rw [mne 2 (by omega), xk s' 3 (by omega)]; exact a2, by rw [mne 3 (by omega), xk s' 4 (by omega)]; exact a3, by rw [mne 4 (by omega), xk s' 5 (by omega)]; exact a4, ?_, ?_⟩
  · rw [up_at, up_at]
    by_cases e2 : s' = s
    · subst e2; simp
    · simp [e2, a5]
  · rw [up_at]
    by_cases e2 : s' = s
    · subst e2; exact ⟨c, hc, by simp⟩
    · exact ⟨c', hc', by simp [e2, a6]⟩
theorem Rel.mem (h : Rel T X M) (hs : s < 8) {p : Nat} (hp : p < 128) (v : Int32) : Rel T (up X (3, s, 0) p v) (up M (15, 0, 0) (128 * s + p) v) := by
  obtain ⟨h1, h2, h3, h4, h5, h6, h7, h8, h9⟩ := h
  have mne : ∀ n, n ≠ 0 → up M (15, 0, 0) (128 * s + p) v (15, n, 0) = M (15, n, 0) := fun n hn => up_n (by simp [hn])
  refine ⟨fun s' hs' p' hp' => ?_, h2.cg (fun _ _ _ _ => by rw [up_n (by simp)]) (fun n _ _ => mne n (by omega)), h3.cg (fun _ _ => up_n (by simp)) (fun _ _ => by rw [up_n (by simp)]) (fun u _ => by rw [mne 6 (by omega)]), h4.cg (fun _ _ _ _ => up_n (by simp)) (fun _ _ _ _ => by rw [up_n (by simp)]) (mne 7 (by omega)), h5.cg (fun _ _ => by rw [up_n (by simp)]) (fun _ _ => up_n (by simp)) (fun _ _ _ _ => up_n (by simp)) (fun _ _ _ _ => by rw [up_n (by simp)]) (mne 8 (by omega)) (mne 9 (by omega)) (fun u _ _ => by rw [mne 6 (by omega)]), h6.cg (fun _ => up_n (by simp)) (fun _ _ => up_n (by simp)) (fun _ _ _ _ => up_n (by simp)) (fun n _ _ => mne n (by omega)) (fun u _ _ => by rw [mne 6 (by omega)]), h7.cg (fun s' => by rw [up_n (by simp)]) (fun _ => up_n (by simp)) (fun _ => up_n (by simp)) (fun n _ _ => mne n (by omega)), h8.cg (by rw [up_n (by simp)]) (by rw [up_n (by simp)]), h9.cg (fun u _ => Or.inl (by rw [mne 6 (by omega)]))⟩
  rw [up_at, up_at]
  by_cases e : s' = s ∧ p' = p
  · obtain ⟨rfl, rfl⟩ := e; simp
  · have e1 : ¬ (128 * s' + p' = 128 * s + p) := by omega
    have e2 : ¬ ((3, s', 0) = ((3, s, 0) : AD) ∧ p' = p) := fun q => e ⟨by simpa using q.1, q.2⟩
    rw [if_neg (fun q => e1 q.2), if_neg e2]
    exact h1 s' hs' p' hp'
theorem Rel.turnX {a b : Nat} (h : Rel (a, b) X M) : Rel (a + 1, b) (up X (0, 0, 0) 2 (nI a + 1)) M := by
  obtain ⟨h1, h2, h3, h4, h5, h6, h7, h8, h9⟩ := h
  refine ⟨h1.cg (fun _ => up_n (by simp)) rfl, h2.cg (fun _ _ _ _ => by rw [up_n (by simp)]) (fun n _ _ => rfl), h3.cg (fun _ _ => up_n (by simp)) (fun _ _ => by rw [up_n (by simp)]) (fun u _ => rfl), h4.cg (fun _ _ _ _ => up_n (by simp)) (fun _ _ _ _ => by rw [up_n (by simp)]) rfl, h5.cg (fun _ _ => by rw [up_n (by simp)]) (fun _ _ => up_n (by simp)) (fun _ _ _ _ => up_n (by simp)) (fun _ _ _ _ => by rw [up_n (by simp)]) rfl rfl (fun u _ _ => rfl), h6.cg (fun _ => up_n (by simp)) (fun _ _ => up_n (by simp)) (fun _ _ _ _ => up_n (by simp)) (fun n _ _ => rfl) (fun u _ _ => rfl), h7.cg (fun s' => by rw [up_n (by simp)]) (fun _ => up_n (by simp)) (fun _ => up_n (by simp)) (fun n _ _ => rfl), ⟨?_, h8.2⟩, h9⟩
  rw [up_s, nI_1]
theorem Rel.turnM {a b : Nat} (h : Rel (a, b) X M) : Rel (a, b + 1) X (up M (14, 0, 0) 17 (nI b + 1)) := by
  obtain ⟨h1, h2, h3, h4, h5, h6, h7, h8, h9⟩ := h
  refine ⟨h1.cg (fun _ => rfl) (up_n (by simp)), h2.cg (fun _ _ _ _ => rfl) (fun n _ _ => up_n (by simp)), h3.cg (fun _ _ => rfl) (fun _ _ => rfl) (fun u _ => by rw [up_n (by simp)]), h4.cg (fun _ _ _ _ => rfl) (fun _ _ _ _ => rfl) (up_n (by simp)), h5.cg (fun _ _ => rfl) (fun _ _ => rfl) (fun _ _ _ _ => rfl) (fun _ _ _ _ => rfl) (up_n (by simp)) (up_n (by simp)) (fun u _ _ => by rw [up_n (by simp)]), h6.cg (fun _ => rfl) (fun _ _ => rfl) (fun _ _ _ _ => rfl) (fun n _ _ => up_n (by simp)) (fun u _ _ => by rw [up_n (by simp)]), h7.cg (fun s' => rfl) (fun _ => rfl) (fun _ => rfl) (fun n _ _ => up_n (by simp)), ⟨h8.1, ?_⟩, h9.cg (fun u _ => Or.inl (by rw [up_n (by simp)]))⟩
  rw [up_s, nI_1]
end LENS
