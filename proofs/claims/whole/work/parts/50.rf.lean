/-! THE CONSTRUCTORS: the heap grows. A cell is an object (class number, values), an array of noughts (type, length), an array of references (type, entries); the heap behind ek_o is a list of cells, the index is 'lay'. -/
abbrev CE : Type := (Nat × List AV) ⊕ ((Nat × Nat) ⊕ (Nat × List (Option AD)))
abbrev oB (ci : Nat) (vs : List AV) : CE := .inl (ci, vs)
abbrev zA (t n : Nat) : CE := .inr (.inl (t, n))
abbrev rA (t : Nat) (xs : List (Option AD)) : CE := .inr (.inr (t, xs))
def rx (K : EK) (xs : List (Option AD)) (j : Nat) : Option Nat := (xs.getD j none).map (adr K)
def ce (K : EK) (c : CE) : va_E := match c with
  | .inl o => .inr (o.1, o.2.map (tv K))
  | .inr (.inl t) => .inl (ek_c K t.1, t.2, .inl (fun _ => 0))
  | .inr (.inr t) => .inl (ek_c K t.1, t.2.length, .inr (.inr (.inr (.inr (rx K t.2)))))
def HF (K : EK) (G : List CE) (H : Heap) : Prop := ek_o K + G.length = H.size ∧ ∀ k c, G[k]? = some c → va_at (ek_D K) cls7 (ek_o K + k, ce K c) H
theorem HF.push {K : EK} {G : List CE} {H H1 : Heap} {c : CE} (h : HF K G H) (z : H1.size = H.size + 1) (o : ∀ q, q < H.size → H1[q]? = H[q]?) (hc : va_at (ek_D K) cls7 (ek_o K + G.length, ce K c) H1) : HF K (G ++ [c]) H1 := by
  refine ⟨by rw [z, ← h.1, List.length_append]; rfl, fun k c' hk => ?_⟩
  by_cases hl : k < G.length
  · rw [List.getElem?_append_left hl] at hk
    exact (h.2 k c' hk).kept (o _ (by have := h.1; show ek_o K + k < H.size; omega))
  · have hz : k < (G ++ [c]).length := (List.getElem?_eq_some_iff.mp hk).1
    have hz' : k = G.length := by rw [List.length_append] at hz; simp at hz; omega
    subst hz'
    rw [List.getElem?_append_right (Nat.le_refl _), Nat.sub_self] at hk
    cases hk
    exact hc
theorem HF.put {K : EK} {G : List CE} {H H1 : Heap} {c : CE} {k : Nat} (h : HF K G H) (hk : k < G.length) (z : H1.size = H.size) (o : ∀ q, q ≠ ek_o K + k → H1[q]? = H[q]?) (hc : va_at (ek_D K) cls7 (ek_o K + k, ce K c) H1) : HF K (G.set k c) H1 := by
  refine ⟨by rw [z, ← h.1, List.length_set], fun k' c' hk' => ?_⟩
  by_cases hh : k' = k
  · subst hh
    rw [List.getElem?_set_self hk] at hk'
    cases hk'
    exact hc
  · rw [List.getElem?_set_ne (Ne.symm hh)] at hk'
    exact (h.2 k' c' hk').kept (o _ (by show ek_o K + k' ≠ ek_o K + k; omega))
def aos : List String := ["FlowKernel$Slot", "FlowKernel$Message", "FlowKernel$StoredFile"]
def KC (K : EK) (mt : MT) (d : Nat) (p : Program) (R : Room) (s : State) (m : MethodId) (args : Array Value) (meth : Method) (c : Code) (N M : Nat) : Prop := RC K mt d p R s m args c N M ∧ (mt.1.name = "<init>" → meth.name = "<init>") ∧ ∀ C ∈ aos, va_AO C s
def RF (K : EK) (mt : MT) (d N M nc ns pc : Nat) (ls : List (Option AV)) (st : List AV) (G : List CE) (E : Nat → List (Option AV) → List AV → List CE → Prop) : Prop :=
  ∀ (p : Program) (e : Env) (R : Room) (s : State) (m : MethodId) (args : Array Value) (below : List Frame) (meth : Method) (c : Code) (H : Heap) (locs : List Loc) (la : Array Slot) (Z : State → Prop),
    KC K mt d p R s m args meth c N M → HF K G H → va_S (AA K) s.heap H locs → lok K la mt.2.2.1 ls →
    (∀ (pc' : Nat) (ls' : List (Option AV)) (st' : List AV) (G' : List CE) (H' : Heap) (locs' : List Loc) (la' : Array Slot), E pc' ls' st' G' → HF K G' H' → va_S (AA K) s.heap H' locs' → lok K la' mt.2.2.1 ls' → W p (ek_l K) e R s m args below meth c H' locs' N M Z (F0 m pc' la' (st'.map (tv K)))) →
    W p (ek_l K) e R s m args below meth c H locs nc ns Z (F0 m pc la (st.map (tv K)))
section RFR
variable {K : EK} {mt : MT} {d N M nc ns pc : Nat} {ls : List (Option AV)} {st : List AV} {G : List CE} {E : Nat → List (Option AV) → List AV → List CE → Prop}
theorem RF.stop (h : E pc ls st G) (h1 : nc ≤ N) (h2 : ns ≤ M) : RF K mt d N M nc ns pc ls st G E := fun p e R s m args below meth c H locs la Z hC hH hS hl hf => W.widen h1 h2 (hf pc ls st G H locs la h hH hS hl)
theorem RF.eqG {G' : List CE} (h : G = G') (k : RF K mt d N M nc ns pc ls st G' E) : RF K mt d N M nc ns pc ls st G E := by rw [h]; exact k
theorem RF.eqN {nc' ns' : Nat} (h1 : nc = nc') (h2 : ns = ns') (k : RF K mt d N M nc' ns' pc ls st G E) : RF K mt d N M nc ns pc ls st G E := by rw [h1, h2]; exact k
theorem RF.iconst {n : Int} {v : Int32} (hd : decode mt.2.1 pc = .ok (.iconst n, 1)) (hv : Int32.ofInt n = v) (k : RF K mt d N M nc ns (pc + 1) ls (rI v :: st) G E) : RF K mt d N M nc ns pc ls st G E := fun p e R s m args below meth c H locs la Z hC hH hS hl hf => lv_iconst hC.1.1 hC.1.2.1 hd hv (k p e R s m args below meth c H locs la Z hC hH hS hl hf)
theorem RF.bipush {n : Int} {v : Int32} (hd : decode mt.2.1 pc = .ok (.bipush n, 2)) (hv : (Int8.ofInt n).toInt32 = v) (k : RF K mt d N M nc ns (pc + 2) ls (rI v :: st) G E) : RF K mt d N M nc ns pc ls st G E := fun p e R s m args below meth c H locs la Z hC hH hS hl hf => lv_bipush hC.1.1 hC.1.2.1 hd hv (k p e R s m args below meth c H locs la Z hC hH hS hl hf)
theorem RF.sipush {n : Int} {v : Int32} (hd : decode mt.2.1 pc = .ok (.sipush n, 3)) (hv : (Int16.ofInt n).toInt32 = v) (k : RF K mt d N M nc ns (pc + 3) ls (rI v :: st) G E) : RF K mt d N M nc ns pc ls st G E := fun p e R s m args below meth c H locs la Z hC hH hS hl hf => lv_sipush hC.1.1 hC.1.2.1 hd hv (k p e R s m args below meth c H locs la Z hC hH hS hl hf)
theorem RF.ldc {n : Nat} {v : Int32} (hd : decode mt.2.1 pc = .ok (.ldc n, 2)) (hw : Cond.constant mt.1.cls n v ∈ tbg) (k : RF K mt d N M nc ns (pc + 2) ls (rI v :: st) G E) : RF K mt d N M nc ns pc ls st G E := fun p e R s m args below meth c H locs la Z hC hH hS hl hf => lv_ldc hC.1.1 hC.1.2.1 hC.1.2.2.2.1 (hC.1.2.2.2.2.1 _ hw) hd (k p e R s m args below meth c H locs la Z hC hH hS hl hf)
theorem RF.iload_n {i : Fin 4} {x : Int32} (hd : decode mt.2.1 pc = .ok (.iload_n i, 1)) (hx : ls[(i : Nat)]? = some (some (rI x))) (k : RF K mt d N M nc ns (pc + 1) ls (rI x :: st) G E) : RF K mt d N M nc ns pc ls st G E := fun p e R s m args below meth c H locs la Z hC hH hS hl hf => lv_iload_n hC.1.1 hC.1.2.1 hd rfl (hl.2.2 _ _ hx) (k p e R s m args below meth c H locs la Z hC hH hS hl hf)
theorem RF.aload_n {i : Fin 4} {o : Option AD} (hd : decode mt.2.1 pc = .ok (.aload_n i, 1)) (hx : ls[(i : Nat)]? = some (some (.inr o))) (k : RF K mt d N M nc ns (pc + 1) ls (.inr o :: st) G E) : RF K mt d N M nc ns pc ls st G E := fun p e R s m args below meth c H locs la Z hC hH hS hl hf => by
  cases o with
  | some a => exact lv_aload_n hC.1.1 hC.1.2.1 hd rfl (hl.2.2 _ _ hx) (k p e R s m args below meth c H locs la Z hC hH hS hl hf)
  | none => exact lv_aload_nN hC.1.1 hC.1.2.1 hd rfl (hl.2.2 _ _ hx) (k p e R s m args below meth c H locs la Z hC hH hS hl hf)
theorem RF.istore_n {i : Fin 4} {x : Int32} {ls' : List (Option AV)} (hd : decode mt.2.1 pc = .ok (.istore_n i, 1)) (hn : (i : Nat) < mt.2.2.1) (hs : ls.set i (some (rI x)) = ls') (k : RF K mt d N M nc ns (pc + 1) ls' st G E) : RF K mt d N M nc ns pc ls (rI x :: st) G E := fun p e R s m args below meth c H locs la Z hC hH hS hl hf => lv_istore_n hC.1.1 hC.1.2.1 hd rfl (lok_has hl) hn rfl (fun la' h => k p e R s m args below meth c H locs la' Z hC hH hS (by rw [← hs]; exact lok_set (v := rI x) h) hf)
theorem RF.astore_n {i : Fin 4} {o : Option AD} {ls' : List (Option AV)} (hd : decode mt.2.1 pc = .ok (.astore_n i, 1)) (hn : (i : Nat) < mt.2.2.1) (hs : ls.set i (some (.inr o)) = ls') (k : RF K mt d N M nc ns (pc + 1) ls' st G E) : RF K mt d N M nc ns pc ls (.inr o :: st) G E := fun p e R s m args below meth c H locs la Z hC hH hS hl hf => by
  cases o with
  | some a => exact lv_astore_n hC.1.1 hC.1.2.1 hd rfl (lok_has hl) hn rfl (fun la' h => k p e R s m args below meth c H locs la' Z hC hH hS (by rw [← hs]; exact lok_set (v := rR a) h) hf)
  | none => exact lv_astore_nN hC.1.1 hC.1.2.1 hd rfl (lok_has hl) hn rfl (fun la' h => k p e R s m args below meth c H locs la' Z hC hH hS (by rw [← hs]; exact lok_set (v := rN) h) hf)
theorem RF.iinc {i : Nat} {n : Int} {x v : Int32} {ls' : List (Option AV)} (hd : decode mt.2.1 pc = .ok (.iinc i n, 3)) (hx : ls[i]? = some (some (rI x))) (hv : x + Int32.ofInt n = v) (hn : i < mt.2.2.1) (hs : ls.set i (some (rI v)) = ls') (k : RF K mt d N M nc ns (pc + 3) ls' st G E) : RF K mt d N M nc ns pc ls st G E := fun p e R s m args below meth c H locs la Z hC hH hS hl hf => by
  obtain ⟨j, hj⟩ := List.getElem?_of_mem (prs_mem (K := K) (q := (i, tv K (rI x))).mpr ⟨rI x, hx, rfl⟩)
  exact lv_iinc hC.1.1 hC.1.2.1 hd (lok_has hl) hj hv hn rfl (fun la' h => k p e R s m args below meth c H locs la' Z hC hH hS (by rw [← hs]; exact lok_set (v := rI v) h) hf)
theorem RF.dup {v : AV} (hd : decode mt.2.1 pc = .ok (.dup, 1)) (k : RF K mt d N M nc ns (pc + 1) ls (v :: v :: st) G E) : RF K mt d N M nc ns pc ls (v :: st) G E := fun p e R s m args below meth c H locs la Z hC hH hS hl hf => lv_dup hC.1.1 hC.1.2.1 hd (tv_cat K v) (k p e R s m args below meth c H locs la Z hC hH hS hl hf)
theorem RF.goto {off : Int} (tgt : Nat) (hd : decode mt.2.1 pc = .ok (.goto off, 3)) (ht : (pc : Int) + off = (tgt : Int)) (k : RF K mt d N M nc ns tgt ls st G E) : RF K mt d N M nc ns pc ls st G E := fun p e R s m args below meth c H locs la Z hC hH hS hl hf => lv_goto hC.1.1 hC.1.2.1 hd ht (k p e R s m args below meth c H locs la Z hC hH hS hl hf)
theorem RF.icmp_ge {x y : Int32} {off : Int} (tgt : Nat) (hd : decode mt.2.1 pc = .ok (.if_icmp .ge off, 3)) (ht : (pc : Int) + off = (tgt : Int)) (kt : y ≤ x → RF K mt d N M nc ns tgt ls st G E) (kf : ¬ y ≤ x → RF K mt d N M nc ns (pc + 3) ls st G E) : RF K mt d N M nc ns pc ls (rI y :: rI x :: st) G E := fun p e R s m args below meth c H locs la Z hC hH hS hl hf => lv_icmp_ge hC.1.1 hC.1.2.1 hd ht (fun h => kt h p e R s m args below meth c H locs la Z hC hH hS hl hf) (fun h => kf h p e R s m args below meth c H locs la Z hC hH hS hl hf)
end RFR
