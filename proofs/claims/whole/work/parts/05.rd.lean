/-! VALUES, ADDRESSES, CELLS of the running system. An address is (kind, i, j); where it lies is 'lay'. -/
abbrev AD : Type := Nat × Nat × Nat
abbrev AV : Type := Int32 ⊕ Option AD
abbrev DT : Type := AD → Nat → Int32
abbrev SH : Type := (Nat × List (Option AV)) ⊕ ((Nat × Nat) ⊕ (Nat × Nat × (Nat → AD)))
abbrev EK : Type := Launch × va_G × (Nat → ClassId) × Nat × Nat × Nat × (Nat → Int32)
abbrev MT : Type := MethodName × ByteArray × Nat × Option FieldType
abbrev rI (x : Int32) : AV := Sum.inl x
abbrev rR (a : AD) : AV := Sum.inr (some a)
abbrev rN : AV := Sum.inr none
abbrev ek_l (K : EK) : Launch := K.1
abbrev ek_D (K : EK) : va_G := K.2.1
abbrev ek_c (K : EK) : Nat → ClassId := K.2.2.1
abbrev ek_b (K : EK) : Nat := K.2.2.2.1
abbrev ek_o (K : EK) : Nat := K.2.2.2.2.1
abbrev ek_L (K : EK) : Nat := K.2.2.2.2.2.1
abbrev ek_x (K : EK) : Nat → Int32 := K.2.2.2.2.2.2
def lay : AD → Nat
  | (0, _, _) => 0
  | (1, _, _) => 1
  | (2, i, _) => 2 + 69 * i
  | (3, i, _) => 3 + 69 * i
  | (4, i, j) => if i = 8 then 554 else if j < 3 then 4 + 69 * i + 2 * j else if j < 11 then 13 + 69 * i + 3 * (j - 3) else 40 + 69 * i + 4 * (j - 11)
  | (5, i, j) => if i = 8 then 555 else if j < 3 then 5 + 69 * i + 2 * j else if j < 11 then 14 + 69 * i + 3 * (j - 3) else 41 + 69 * i + 4 * (j - 11)
  | (6, i, _) => 10 + 69 * i
  | (7, i, _) => 11 + 69 * i
  | (8, i, j) => 12 + 69 * i + 3 * j
  | (9, i, _) => 36 + 69 * i
  | (10, i, _) => 37 + 69 * i
  | (11, i, _) => 38 + 69 * i
  | (12, i, j) => 39 + 69 * i + 4 * j
  | (13, i, j) => 42 + 69 * i + 4 * j
  | (14, _, _) => 556
  | (15, j, _) => 557 + j
  | _ => 0
def mty (j : Nat) : Nat := if j = 6 then 1 else if j = 7 then 1 else if j = 8 then 1 else 0
def mln (j : Nat) : Nat := if j = 0 then 1024 else if j = 6 then 35072 else if j = 7 then 4096 else if j = 8 then 64 else if j = 9 then 512 else if j = 11 then 64 else if j = 12 then 64 else if j = 13 then 64 else if j = 15 then 512 else if j = 16 then 512 else 8
def sk : AD → SH
  | (0, _, _) => .inl (5, [some (rR (1, 0, 0)), some (rR (4, 8, 0)), none])
  | (1, _, _) => .inr (.inr (2, 8, fun i => (2, i, 0)))
  | (2, i, _) => .inl (2, [some (rI (nI i)), some (rR (3, i, 0)), none, none, none, none, none, some (rR (4, i, 0)), some (rR (4, i, 1)), some (rR (4, i, 2)), some (rR (6, i, 0)), some (rR (9, i, 0)), some (rR (10, i, 0)), some (rR (11, i, 0)), none])
  | (3, _, _) => .inr (.inl (0, 128))
  | (4, i, j) => .inl (4, [some (rR (5, i, j)), none])
  | (5, _, _) => .inr (.inl (0, 8))
  | (6, i, _) => .inl (1, [some (rR (7, i, 0)), none, none])
  | (7, i, _) => .inr (.inr (3, 8, fun j => (8, i, j)))
  | (8, i, j) => .inl (0, [some (rR (4, i, 3 + j)), none, none, none])
  | (9, i, _) => .inr (.inr (4, 8, fun j => (12, i, j)))
  | (10, _, _) => .inr (.inl (0, 64))
  | (11, _, _) => .inr (.inl (0, 64))
  | (12, i, j) => .inl (3, [some (rR (4, i, 11 + j)), some (rR (13, i, j)), none])
  | (13, _, _) => .inr (.inl (0, 8))
  | (14, _, _) => .inl (6, [some (rR (15, 0, 0)), some (rR (15, 1, 0)), some (rR (15, 2, 0)), some (rR (15, 3, 0)), some (rR (15, 4, 0)), some (rR (15, 5, 0)), some (rR (15, 6, 0)), some (rR (15, 7, 0)), some (rR (15, 8, 0)), some (rR (15, 9, 0)), some (rR (15, 10, 0)), some (rR (15, 11, 0)), some (rR (15, 12, 0)), some (rR (15, 13, 0)), some (rR (15, 14, 0)), some (rR (15, 15, 0)), some (rR (15, 16, 0)), none])
  | (15, j, _) => .inr (.inl (mty j, mln j))
  | _ => .inr (.inl (0, 0))
def slotA (i : Nat) : List AD := [(2, i, 0), (3, i, 0), (4, i, 0), (5, i, 0), (4, i, 1), (5, i, 1), (4, i, 2), (5, i, 2), (6, i, 0), (7, i, 0)] ++ ((List.range 8).flatMap (fun j => [(8, i, j), (4, i, 3 + j), (5, i, 3 + j)]) ++ ([(9, i, 0), (10, i, 0), (11, i, 0)] ++ (List.range 8).flatMap (fun j => [(12, i, j), (4, i, 11 + j), (5, i, 11 + j), (13, i, j)])))
def allA : List AD := [(0, 0, 0), (1, 0, 0)] ++ ((List.range 8).flatMap slotA ++ ([(4, 8, 0), (5, 8, 0), (14, 0, 0)] ++ (List.range 17).map (fun j => (15, j, 0))))
def okA (a : AD) : Prop := allA[lay a]? = some a
theorem allA_lay : ∀ i, i < 574 → (allA[i]?).map lay = some i := by decide +kernel
theorem allA_not16 : ∀ i, i < 574 → (allA[i]?).map (fun a => a.1 == 16) = some false := by decide +kernel
theorem allA_len : allA.length = 574 := by decide +kernel
theorem allA_ix {i : Nat} {a : AD} (h : allA[i]? = some a) : lay a = i ∧ a.1 ≠ 16 := by
  have hl : i < 574 := by rw [← allA_len]; exact (List.getElem?_eq_some_iff.mp h).1
  have h1 := allA_lay i hl
  have h2 := allA_not16 i hl
  rw [h] at h1 h2
  refine ⟨Option.some.inj h1, fun hh => ?_⟩
  simp [hh] at h2
def adr (K : EK) (a : AD) : Nat := if a.1 = 16 then ek_b K else ek_o K + lay a
def tv (K : EK) : AV → Value
  | .inl x => .int x
  | .inr none => .null
  | .inr (some a) => .ref (adr K a)
theorem tv_cat (K : EK) (v : AV) : (tv K v).category = 1 := by
  rcases v with x | _ | a <;> rfl
def fld (K : EK) : List (Option AV) → Nat → (Nat → Int32) → List Value
  | [], _, _ => []
  | o :: r, k, f => (match o with | some v => tv K v | none => .int (f k)) :: fld K r (k + 1) f
theorem fld_len (K : EK) : ∀ (fs : List (Option AV)) (k : Nat) (f : Nat → Int32), (fld K fs k f).length = fs.length
  | [], _, _ => rfl
  | _ :: r, k, f => by simp [fld, fld_len K r (k + 1) f]
theorem fld_at (K : EK) : ∀ (fs : List (Option AV)) (k j : Nat) (f : Nat → Int32) (o : Option AV), fs[j]? = some o → (fld K fs k f)[j]? = some (match o with | some v => tv K v | none => .int (f (k + j)))
  | [], _, _, _, _, h => by simp at h
  | a :: r, k, 0, f, o, h => by
    simp at h
    subst h
    rfl
  | a :: r, k, j + 1, f, o, h => by
    have h' : r[j]? = some o := by simpa using h
    have := fld_at K r (k + 1) j f o h'
    simp only [fld, List.getElem?_cons_succ]
    rw [this]
    cases o with
    | some v => rfl
    | none => simp [Nat.add_assoc, Nat.add_comm 1 j]
theorem fld_set (K : EK) : ∀ (fs : List (Option AV)) (k j : Nat) (f : Nat → Int32) (x : Int32), fs[j]? = some none → (fld K fs k f).set j (.int x) = fld K fs k (upd f (k + j) x)
  | [], _, _, _, _, h => by simp at h
  | a :: r, k, 0, f, x, h => by
    simp at h
    subst h
    simp only [fld, List.set_cons_zero]
    have h1 : upd f (k + 0) x k = x := by simp [upd]
    rw [h1]
    congr 1
    have key : ∀ (q : List (Option AV)) (n : Nat), k < n → fld K q n f = fld K q n (upd f (k + 0) x) := by
      intro q
      induction q with
      | nil => intro n _; rfl
      | cons o q ih =>
        intro n hn
        simp only [fld]
        rw [ih (n + 1) (by omega)]
        cases o with
        | some v => rfl
        | none =>
          have : upd f (k + 0) x n = f n := by simp [upd]; omega
          rw [this]
    exact key r (k + 1) (by omega)
  | a :: r, k, j + 1, f, x, h => by
    have h' : r[j]? = some none := by simpa using h
    have := fld_set K r (k + 1) j f x h'
    simp only [fld, List.set_cons_succ]
    rw [this, show k + 1 + j = k + (j + 1) by omega]
    congr 1
    cases a with
    | some v => rfl
    | none =>
      have : upd f (k + (j + 1)) x k = f k := by simp [upd]
      rw [this]
def te (K : EK) (h : SH) (f : Nat → Int32) : va_E := match h with
  | .inl o => .inr (o.1, fld K o.2 0 f)
  | .inr (.inl t) => .inl (ek_c K t.1, t.2, .inl f)
  | .inr (.inr t) => .inl (ek_c K t.1, t.2.1, .inr (.inr (.inr (.inr (fun j => some (adr K (t.2.2 j)))))))
def wl (K : EK) (D : DT) : va_W := allA.map (fun a => (adr K a, te K (sk a) (D a)))
def cls7 : List vw_C := [(RX0, TX0, 4), (RX1, TX1, 3), (RX2, TX2, 15), (RX3, TX3, 3), (RX4, TX4, 2), (RX5, TX5, 3), (RX6, TX6, 18)]
def tyl (K : EK) : List (ClassId × FieldType) := [(ek_c K 0, .int), (ek_c K 1, .boolean), (ek_c K 2, .object "FlowKernel$Slot"), (ek_c K 3, .object "FlowKernel$Message"), (ek_c K 4, .object "FlowKernel$StoredFile")]
def HD (K : EK) (D : DT) (H : Heap) : Prop := va_P (ek_D K) cls7 (wl K D) H
def AA (K : EK) : Nat → Prop := fun q => ek_o K ≤ q
theorem wl_at {K : EK} {D : DT} {a : AD} (h : okA a) : (wl K D)[lay a]? = some (adr K a, te K (sk a) (D a)) := by
  simp only [wl, List.getElem?_map]
  rw [show allA[lay a]? = some a from h]
  rfl
theorem wl_D (K : EK) (D : DT) : va_D (AA K) (wl K D) := by
  have key : ∀ (i : Nat) (q : Nat × va_E), (wl K D)[i]? = some q → q.1 = ek_o K + i := by
    intro i q h
    simp only [wl, List.getElem?_map] at h
    cases ha : allA[i]? with
    | none => rw [ha] at h; simp at h
    | some a =>
      rw [ha] at h
      obtain ⟨h1, h2⟩ := allA_ix ha
      cases h
      show (if a.1 = 16 then _ else _) = _
      rw [if_neg h2, h1]
  refine ⟨fun i j x y hi hj hxy => ?_, fun i q h => ?_⟩
  · have := key i x hi
    have := key j y hj
    omega
  · show ek_o K ≤ q.1
    rw [key i q h]
    omega
def up (D : DT) (a : AD) (k : Nat) (x : Int32) : DT := fun a' => if a' = a then upd (D a) k x else D a'
theorem HD_up {K : EK} {D : DT} {a : AD} {k : Nat} {x : Int32} {H : Heap} {e : va_E} (h : okA a) (he : e = te K (sk a) (upd (D a) k x)) (hp : va_P (ek_D K) cls7 ((wl K D).set (lay a) (adr K a, e)) H) : HD K (up D a k x) H := by
  intro i q hq
  simp only [wl, List.getElem?_map] at hq
  cases ha : allA[i]? with
  | none => rw [ha] at hq; simp at hq
  | some a' =>
    rw [ha] at hq
    cases hq
    obtain ⟨h1, h2⟩ := allA_ix ha
    have hl : lay a < (wl K D).length := (List.getElem?_eq_some_iff.mp (wl_at (K := K) (D := D) h)).1
    by_cases hh : a' = a
    · subst hh
      have := hp (lay a') (adr K a', e) (by rw [List.getElem?_set_self hl])
      rw [he] at this
      simpa [up] using this
    · have hne : i ≠ lay a := by
        intro e1
        subst e1
        rw [show allA[lay a]? = some a from h] at ha
        exact hh (Option.some.inj ha).symm
      have := hp i (adr K a', te K (sk a') (D a')) (by
        rw [List.getElem?_set_ne (Ne.symm hne)]
        simp only [wl, List.getElem?_map, ha, Option.map_some])
      simpa [up, hh] using this
/-! THE TABLES' WORDS -/
def tbg : List Cond := lw_tbl.filter goodWord
def isNest : Cond → Bool
  | .fieldLinkNest .. => true
  | .methodLinkNest .. => true
  | _ => false
def nst : List Cond := lw_tbl.filter isNest
theorem tbg_in {w : Cond} (h : w ∈ lw_tbl) (hg : goodWord w = true) : w ∈ tbg := List.mem_filter.mpr ⟨h, hg⟩
theorem nst_in {w : Cond} (h : w ∈ lw_tbl) (hg : isNest w = true) : w ∈ nst := List.mem_filter.mpr ⟨h, hg⟩
theorem nst_warm {w : Cond} (h : w ∈ nst) {s U : State} (hW : s.WarmedH U.vm) (hZ : va_Nw w s) : va_Nw w U := by
  have h1 := (List.mem_filter.mp h).2
  cases w <;> first | exact va_Nw.warmF hW hZ | exact va_Nw.warmM hW hZ | exact absurd h1 (by decide) | cases h1
theorem nst_same {w : Cond} (h : w ∈ nst) {u U : State} (hv : u.vm = U.vm) (hZ : va_Nw w u) : va_Nw w U := by
  have h1 := (List.mem_filter.mp h).2
  cases w <;> first | exact va_Nw.same rfl hv hZ | cases h1
theorem nst_use {w : Cond} (h : w ∈ nst) {A : Array Value} {U : State} (hZ : va_Nw w U) : w.before A U = true := by
  have h1 := (List.mem_filter.mp h).2
  cases w <;> first | exact va_Nw.use rfl hZ | cases h1
