/-! numbers in a range; tags as bits of eight words -/
def inR (t : Int32) (N : Nat) : Bool := decide (0 ≤ t) && decide (t < nI N)
theorem i32_nlt {x y : Int32} (h : ¬ x < y) : y ≤ x := Int32.not_lt.mp h
theorem i32_nle {x y : Int32} (h : ¬ x ≤ y) : y < x := Int32.not_le.mp h
theorem inR_neg {t : Int32} {N : Nat} (h : t < 0) : inR t N = false := by
  have : ¬ 0 ≤ t := fun h2 => absurd h (Int32.not_lt.mpr h2)
  simp [inR, this]
theorem inR_big {t : Int32} {N : Nat} (h : nI N ≤ t) : inR t N = false := by
  have : ¬ t < nI N := Int32.not_lt.mpr h
  simp [inR, this]
theorem inR_in {t : Int32} {N : Nat} (h1 : ¬ t < 0) (h2 : ¬ nI N ≤ t) : inR t N = true := by
  simp [inR, i32_nlt h1, i32_nle h2]
theorem inR_t {t : Int32} {N : Nat} (hN : N < 2 ^ 31) (h : inR t N = true) : ∃ n, n < N ∧ t = nI n := by
  simp [inR] at h
  obtain ⟨n, hn, rfl⟩ := nI_of (x := t) (Int32.not_lt.mpr h.1)
  exact ⟨n, (nI_ltI hn hN).mp h.2, rfl⟩
theorem inR_n {t : Int32} {N : Nat} (h1 : ¬ t < 0) (h2 : ¬ nI N ≤ t) (hN : N < 2 ^ 31) : ∃ n, n < N ∧ t = nI n := inR_t hN (inR_in h1 h2)
theorem inR_nI {n N : Nat} (hN : N < 2 ^ 31) (h : n < N) : inR (nI n) N = true := by
  simp [inR, nI_pos' (n := n) (by omega), nI_lt h hN]
theorem inR_nIb {n N : Nat} (hN : N < 2 ^ 31) (hn : n < 2 ^ 31) : inR (nI n) N = decide (n < N) := by
  by_cases h : n < N
  · simp [inR_nI hN h, h]
  · rw [inR_big (nI_le (by omega) hn)]; simp [h]
theorem bI_ne {b : Bool} : bI b = 0 ↔ b = false := by cases b <;> simp [bI]
theorem bI_t : bI true = 1 := rfl
theorem bI_f : bI false = 0 := rfl
def tg (f : Nat → Int32) (n : Nat) : Bool := (f (n / 32)).toBitVec.getLsbD (n % 32)
theorem smod_k : ∀ k, k < 32 → ((nI k).toBitVec.smod 32).toNat = k := by decide
theorem and31 {n : Nat} (hn : n < 2 ^ 31) : nI n &&& 31 = nI (n % 32) := pk_andN (by omega) 5 (by decide)
theorem and31t {n : Nat} (hn : n < 2 ^ 31) : (nI n &&& 31) &&& 31 = nI (n % 32) := by
  rw [and31 hn, and31 (by omega), Nat.mod_mod]
theorem shr5 {n : Nat} (hn : n < 2 ^ 31) : nI n >>> ((5 : Int32) &&& 31) = nI (n / 32) := pk_shrN hn _ 5 (by decide)
theorem msk_bv {k : Nat} (hk : k < 32) : ((1 : Int32) <<< nI k).toBitVec = BitVec.twoPow 32 k := by
  apply BitVec.eq_of_toNat_eq
  rw [pk_shl 1 (nI k) k (smod_k k hk), BitVec.toNat_twoPow, show (1 : Int32).toBitVec.toNat = 1 from by decide, Nat.one_mul]
theorem bit_and {x : Int32} {k : Nat} (hk : k < 32) : x &&& ((1 : Int32) <<< nI k) = 0 ↔ x.toBitVec.getLsbD k = false := by
  rw [← Int32.toBitVec_inj, Int32.toBitVec_and, msk_bv hk, BitVec.and_twoPow]
  have h0 : (0 : Int32).toBitVec = 0#32 := by decide
  rw [h0]
  by_cases h : x.toBitVec.getLsbD k = true
  · simp only [h, if_true]
    constructor
    · intro h2
      have := congrArg (fun b => b.getLsbD k) h2
      simp [BitVec.getLsbD_twoPow, hk] at this
    · intro h2; cases h2
  · simp [h]
theorem bit_or {x : Int32} {k m : Nat} (hk : k < 32) (hm : m < 32) : (x ||| ((1 : Int32) <<< nI k)).toBitVec.getLsbD m = (x.toBitVec.getLsbD m || decide (m = k)) := by
  rw [Int32.toBitVec_or, msk_bv hk, BitVec.getLsbD_or, BitVec.getLsbD_twoPow]
  by_cases h : m = k
  · subst h; simp [hm]
  · have : ¬ k = m := fun e => h e.symm
    simp [h, this]
theorem bit_clr {x : Int32} {k m : Nat} (hk : k < 32) (hm : m < 32) : (x &&& (((1 : Int32) <<< nI k) ^^^ (-1))).toBitVec.getLsbD m = (x.toBitVec.getLsbD m && !decide (m = k)) := by
  rw [Int32.toBitVec_and, Int32.toBitVec_xor, msk_bv hk, BitVec.getLsbD_and, BitVec.getLsbD_xor, BitVec.getLsbD_twoPow]
  have h1 : (-1 : Int32).toBitVec = BitVec.allOnes 32 := by decide
  rw [h1, BitVec.getLsbD_allOnes]
  by_cases h : m = k
  · subst h; simp [hm]
  · have : ¬ k = m := fun e => h e.symm
    simp [h, this, hm]
theorem bit_sub {x y z : Int32} : x &&& ((y ||| z) ^^^ (-1)) = 0 ↔ ∀ m, m < 32 → x.toBitVec.getLsbD m = true → (y.toBitVec.getLsbD m || z.toBitVec.getLsbD m) = true := by
  have h1 : (-1 : Int32).toBitVec = BitVec.allOnes 32 := by decide
  have h0 : (0 : Int32).toBitVec = 0#32 := by decide
  rw [← Int32.toBitVec_inj, Int32.toBitVec_and, Int32.toBitVec_xor, Int32.toBitVec_or, h1, h0]
  have hE : ∀ m, m < 32 → (BitVec.allOnes 32).getLsbD m = true := by
    intro m hm
    rw [BitVec.getLsbD_allOnes]
    exact decide_eq_true hm
  generalize BitVec.allOnes 32 = E at hE ⊢
  generalize x.toBitVec = X
  generalize y.toBitVec = Y
  generalize z.toBitVec = Z
  have key : ∀ m, m < 32 → (X &&& ((Y ||| Z) ^^^ E)).getLsbD m = (X.getLsbD m && !(Y.getLsbD m || Z.getLsbD m)) := by
    intro m hm
    rw [BitVec.getLsbD_and, BitVec.getLsbD_xor, BitVec.getLsbD_or, hE m hm, Bool.xor_true]
  constructor
  · intro h m hm hx
    have h2 := key m hm
    rw [h, hx, BitVec.getLsbD_zero] at h2
    cases hq : (Y.getLsbD m || Z.getLsbD m) with
    | true => rfl
    | false => rw [hq] at h2; cases h2
  · intro h
    apply BitVec.eq_of_getLsbD_eq
    intro m hm
    rw [key m hm, BitVec.getLsbD_zero]
    cases hx : X.getLsbD m with
    | false => rfl
    | true => rw [h m hm hx]; rfl
def hasF (f : Nat → Int32) (t : Int32) : Bool := inR t 256 && tg f t.toNatClampNeg
theorem hasF_nI {f : Nat → Int32} {n : Nat} (hn : n < 256) : hasF f (nI n) = tg f n := by
  rw [hasF, inR_nI (by decide) hn, nI_clamp (by omega), Bool.true_and]
theorem hasF_out {f : Nat → Int32} {t : Int32} (h : inR t 256 = false) : hasF f t = false := by rw [hasF, h, Bool.false_and]
