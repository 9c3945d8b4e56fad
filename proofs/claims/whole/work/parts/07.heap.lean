/-! FIELDS, ARRAYS -/
/-- a link of a field: own class and pool number to (class number, place); by an own link, or a nest mate's -/
def FLK (own : String) (idx ci k : Nat) : Prop := ∃ (C : String) (T : u_T) (N : Nat) (ty : Nat → FieldType), cls7[ci]? = some (C, T, N) ∧ k < N ∧ (∀ w ∈ u_ws C T N, w ∈ tbg) ∧ (∀ k, k < N → parseFieldDescriptor (T k).2.2.1 = some (ty k)) ∧ (∀ a, a < N → ∀ b, b < N → a ≠ b → (T a).2.1 ≠ (T b).2.1) ∧
  (Cond.fieldLink own idx (T k).1 (T k).2.1 (T k).2.2.1 ∈ tbg ∨ ∃ host, Cond.fieldLinkNest own idx (T k).1 (T k).2.1 (T k).2.2.1 host ∈ nst)
/-- the same of a field that is not final, of type ty -/
def FLP (own : String) (idx ci k : Nat) (ty : FieldType) : Prop := ∃ (C : String) (T : u_T) (N : Nat) (tyf : Nat → FieldType), cls7[ci]? = some (C, T, N) ∧ k < N ∧ (∀ w ∈ u_ws C T N, w ∈ tbg) ∧ (∀ k, k < N → parseFieldDescriptor (T k).2.2.1 = some (tyf k)) ∧ (∀ a, a < N → ∀ b, b < N → a ≠ b → (T a).2.1 ≠ (T b).2.1) ∧ (T k).2.2.2 = false ∧ parseFieldDescriptor (T k).2.2.1 = some ty ∧
  (Cond.fieldLink own idx (T k).1 (T k).2.1 (T k).2.2.1 ∈ tbg ∨ ∃ host, Cond.fieldLinkNest own idx (T k).1 (T k).2.1 (T k).2.2.1 host ∈ nst)
theorem adr_ok {K : EK} {a : AD} (h : okA a) : adr K a = ek_o K + lay a := by
  have := (allA_ix h).2
  simp [adr, this]
theorem te_obj {K : EK} {a : AD} {ci : Nat} {fs : List (Option AV)} {f : Nat → Int32} (h : sk a = .inl (ci, fs)) : te K (sk a) f = .inr (ci, fld K fs 0 f) := by rw [h]; rfl
theorem te_ints {K : EK} {a : AD} {t n : Nat} {f : Nat → Int32} (h : sk a = .inr (.inl (t, n))) : te K (sk a) f = .inl (ek_c K t, n, .inl f) := by rw [h]; rfl
theorem te_refs {K : EK} {a : AD} {t n : Nat} {g : Nat → AD} {f : Nat → Int32} (h : sk a = .inr (.inr (t, n, g))) : te K (sk a) f = .inl (ek_c K t, n, .inr (.inr (.inr (.inr (fun j => some (adr K (g j))))))) := by rw [h]; rfl
section RDH
variable {K : EK} {mt : MT} {d pc : Nat} {ls : List (Option AV)} {st : List AV} {D : DT} {Q : Option AV → DT → Prop} {a : AD}
theorem RD.getI {idx ci k : Nat} {fs : List (Option AV)} (hd : decode mt.2.1 pc = .ok (.getfield idx, 3)) (hF : FLK mt.1.cls idx ci k) (ha : okA a) (hs : sk a = .inl (ci, fs)) (ho : fs[k]? = some (none))
    (kk : RD K mt d (pc + 3) ls (rI (D a k) :: st) D Q) : RD K mt d pc ls (rR a :: st) D Q := by
  intro p e R s m args below meth c H locs cells slots la Z hC hH hS hl hf
  obtain ⟨C, T, N, ty, hc, hk, hin, hty, hnm, hlk⟩ := hF
  have he : (wl K D)[lay a]? = some (adr K a, .inr (ci, fld K fs 0 (D a))) := by rw [wl_at ha, te_obj hs]
  have hv : (fld K fs 0 (D a))[k]? = some (.int (D a k)) := by
    have := fld_at K fs 0 k (D a) _ ho
    rw [Nat.zero_add] at this
    exact this
  rcases hlk with h | ⟨host, h⟩
  · exact va_get (D := ek_D K) (tys := tyl K) hC.1 hC.2.1 hC.2.2.2.2.1 hin hC.2.2.2.1 hC.2.2.2.2.2.2.1 hH (lay a) he hc k hk (hC.2.2.2.2.1 _ h) (fun _ z => z) hv hd (kk p e R s m args below meth c H locs cells slots la Z hC hH hS hl hf)
  · exact va_getN (D := ek_D K) (tys := tyl K) hC.1 hC.2.1 hC.2.2.2.2.1 hin hC.2.2.2.1 hC.2.2.2.2.2.2.1 hH (lay a) he hc k hk (nst_use h (hC.2.2.2.2.2.1 _ h)) (fun _ z => z) hv hd (kk p e R s m args below meth c H locs cells slots la Z hC hH hS hl hf)
theorem RD.getR {idx ci k : Nat} {fs : List (Option AV)} {v : AV} (hd : decode mt.2.1 pc = .ok (.getfield idx, 3)) (hF : FLK mt.1.cls idx ci k) (ha : okA a) (hs : sk a = .inl (ci, fs)) (ho : fs[k]? = some (some v))
    (kk : RD K mt d (pc + 3) ls (v :: st) D Q) : RD K mt d pc ls (rR a :: st) D Q := by
  intro p e R s m args below meth c H locs cells slots la Z hC hH hS hl hf
  obtain ⟨C, T, N, ty, hc, hk, hin, hty, hnm, hlk⟩ := hF
  have he : (wl K D)[lay a]? = some (adr K a, .inr (ci, fld K fs 0 (D a))) := by rw [wl_at ha, te_obj hs]
  have hv : (fld K fs 0 (D a))[k]? = some (tv K v) := by
    have := fld_at K fs 0 k (D a) _ ho
    rw [Nat.zero_add] at this
    exact this
  rcases hlk with h | ⟨host, h⟩
  · exact va_get (D := ek_D K) (tys := tyl K) hC.1 hC.2.1 hC.2.2.2.2.1 hin hC.2.2.2.1 hC.2.2.2.2.2.2.1 hH (lay a) he hc k hk (hC.2.2.2.2.1 _ h) (fun _ z => z) hv hd (kk p e R s m args below meth c H locs cells slots la Z hC hH hS hl hf)
  · exact va_getN (D := ek_D K) (tys := tyl K) hC.1 hC.2.1 hC.2.2.2.2.1 hin hC.2.2.2.1 hC.2.2.2.2.2.2.1 hH (lay a) he hc k hk (nst_use h (hC.2.2.2.2.2.1 _ h)) (fun _ z => z) hv hd (kk p e R s m args below meth c H locs cells slots la Z hC hH hS hl hf)
theorem RD.putf {idx ci k : Nat} {fs : List (Option AV)} {x : Int32} {ty : FieldType} (hd : decode mt.2.1 pc = .ok (.putfield idx, 3)) (hF : FLP mt.1.cls idx ci k ty) (ha : okA a) (hs : sk a = .inl (ci, fs)) (ho : fs[k]? = some none) (hn : narrow ty (.int x) = .int x) (hfit : fits ty (.int x) = true)
    (kk : RD K mt d (pc + 3) ls st (up D a k x) Q) : RD K mt d pc ls (rI x :: rR a :: st) D Q := by
  intro p e R s m args below meth c H locs cells slots la Z hC hH hS hl hf
  obtain ⟨C, T, N, tyf, hc, hk, hin, hty, hnm, hfin, hpd, hlk⟩ := hF
  have he : (wl K D)[lay a]? = some (adr K a, .inr (ci, fld K fs 0 (D a))) := by rw [wl_at ha, te_obj hs]
  have hlen : k < (fld K fs 0 (D a)).length := by rw [fld_len]; exact (List.getElem?_eq_some_iff.mp ho).1
  have hset : (.inr (ci, (fld K fs 0 (D a)).set k (.int x)) : va_E) = te K (sk a) (upd (D a) k x) := by
    rw [te_obj hs, fld_set K fs 0 k (D a) x ho, Nat.zero_add]
  rcases hlk with h | ⟨host, h⟩
  · exact va_put (D := ek_D K) (tys := tyl K) hC.1 hC.2.1 hC.2.2.2.2.1 hin tyf hty hnm hC.2.2.2.1 hC.2.2.2.2.2.2.1 hH (wl_D K D) hS (lay a) he hc k hk (hC.2.2.2.2.1 _ h) (fun _ z => z) hfin hpd hn hfit hlen hd (fun H1 locs1 hP _ hS1 => kk p e R s m args below meth c H1 locs1 cells slots la Z hC (HD_up ha hset hP) hS1 hl hf)
  · exact va_putN (D := ek_D K) (tys := tyl K) hC.1 hC.2.1 hC.2.2.2.2.1 hin tyf hty hnm hC.2.2.2.1 hC.2.2.2.2.2.2.1 hH (wl_D K D) hS (lay a) he hc k hk (nst_use h (hC.2.2.2.2.2.1 _ h)) (fun _ z => z) hfin hpd hn hfit hlen hd (fun H1 locs1 hP _ hS1 => kk p e R s m args below meth c H1 locs1 cells slots la Z hC (HD_up ha hset hP) hS1 hl hf)
theorem RD.iald {n : Nat} {i : Int32} (j : Nat) (hd : decode mt.2.1 pc = .ok (.iaload, 1)) (ha : okA a) (hs : sk a = .inr (.inl (0, n))) (hi : i = nI j) (hj : j < n) (hn : n < 2 ^ 31)
    (kk : RD K mt d (pc + 1) ls (rI (D a j) :: st) D Q) : RD K mt d pc ls (rI i :: rR a :: st) D Q := by
  intro p e R s m args below meth c H locs cells slots la Z hC hH hS hl hf
  have he : (wl K D)[lay a]? = some (adr K a, .inl (ek_c K 0, n, .inl (D a))) := by rw [wl_at ha, te_ints hs]
  subst hi
  refine va_iald (D := ek_D K) (tys := tyl K) hC.1 hC.2.1 hC.2.2.2.2.2.2.1 hH (lay a) 0 he rfl (vp_in_nI hj hn) hd ?_
  rw [nI_clamp (by omega)]
  exact kk p e R s m args below meth c H locs cells slots la Z hC hH hS hl hf
theorem RD.zald {n : Nat} {i : Int32} (j : Nat) (hd : decode mt.2.1 pc = .ok (.baload, 1)) (ha : okA a) (hs : sk a = .inr (.inl (1, n))) (hi : i = nI j) (hj : j < n) (hn : n < 2 ^ 31)
    (kk : RD K mt d (pc + 1) ls (rI (D a j) :: st) D Q) : RD K mt d pc ls (rI i :: rR a :: st) D Q := by
  intro p e R s m args below meth c H locs cells slots la Z hC hH hS hl hf
  have he : (wl K D)[lay a]? = some (adr K a, .inl (ek_c K 1, n, .inl (D a))) := by rw [wl_at ha, te_ints hs]
  subst hi
  refine va_zald (D := ek_D K) (tys := tyl K) hC.1 hC.2.1 hC.2.2.2.2.2.2.1 hH (lay a) 1 he rfl (vp_in_nI hj hn) hd ?_
  rw [nI_clamp (by omega)]
  exact kk p e R s m args below meth c H locs cells slots la Z hC hH hS hl hf
theorem RD.iast {n : Nat} {i x : Int32} (j : Nat) (hd : decode mt.2.1 pc = .ok (.iastore, 1)) (ha : okA a) (hs : sk a = .inr (.inl (0, n))) (hi : i = nI j) (hj : j < n) (hn : n < 2 ^ 31)
    (kk : RD K mt d (pc + 1) ls st (up D a j x) Q) : RD K mt d pc ls (rI x :: rI i :: rR a :: st) D Q := by
  intro p e R s m args below meth c H locs cells slots la Z hC hH hS hl hf
  have he : (wl K D)[lay a]? = some (adr K a, .inl (ek_c K 0, n, .inl (D a))) := by rw [wl_at ha, te_ints hs]
  subst hi
  refine va_iast (D := ek_D K) (tys := tyl K) hC.1 hC.2.1 hC.2.2.2.2.2.2.1 hH (wl_D K D) hS (lay a) 0 he rfl (vp_in_nI hj hn) hd (fun H1 locs1 hP _ hS1 => ?_)
  rw [nI_clamp (by omega)] at hP
  exact kk p e R s m args below meth c H1 locs1 cells slots la Z hC (HD_up ha (by rw [te_ints hs]) hP) hS1 hl hf
theorem RD.zast {n : Nat} {i x : Int32} (j : Nat) (hd : decode mt.2.1 pc = .ok (.bastore, 1)) (ha : okA a) (hs : sk a = .inr (.inl (1, n))) (hi : i = nI j) (hj : j < n) (hn : n < 2 ^ 31) (hx : vp_nar .boolean x = x)
    (kk : RD K mt d (pc + 1) ls st (up D a j x) Q) : RD K mt d pc ls (rI x :: rI i :: rR a :: st) D Q := by
  intro p e R s m args below meth c H locs cells slots la Z hC hH hS hl hf
  have he : (wl K D)[lay a]? = some (adr K a, .inl (ek_c K 1, n, .inl (D a))) := by rw [wl_at ha, te_ints hs]
  subst hi
  refine va_zast (D := ek_D K) (tys := tyl K) hC.1 hC.2.1 hC.2.2.2.2.2.2.1 hH (wl_D K D) hS (lay a) 1 he rfl (vp_in_nI hj hn) hd (fun H1 locs1 hP _ hS1 => ?_)
  rw [nI_clamp (by omega), hx] at hP
  exact kk p e R s m args below meth c H1 locs1 cells slots la Z hC (HD_up ha (by rw [te_ints hs]) hP) hS1 hl hf
theorem RD.aald {n t : Nat} {g : Nat → AD} {C : String} {i : Int32} (j : Nat) (hd : decode mt.2.1 pc = .ok (.aaload, 1)) (ha : okA a) (hs : sk a = .inr (.inr (t, n, g))) (ht : (tyl K)[t]? = some (ek_c K t, .object C)) (hi : i = nI j) (hj : j < n) (hn : n < 2 ^ 31)
    (kk : RD K mt d (pc + 1) ls (rR (g j) :: st) D Q) : RD K mt d pc ls (rI i :: rR a :: st) D Q := by
  intro p e R s m args below meth c H locs cells slots la Z hC hH hS hl hf
  have he : (wl K D)[lay a]? = some (adr K a, .inl (ek_c K t, n, .inr (.inr (.inr (.inr (fun j => some (adr K (g j)))))))) := by rw [wl_at ha, te_refs hs]
  subst hi
  refine va_aldq (D := ek_D K) (tys := tyl K) hC.1 hC.2.1 hC.2.2.2.2.2.2.1 hH (lay a) t he ht (vp_in_nI hj hn) hd ?_
  rw [nI_clamp (by omega)]
  exact kk p e R s m args below meth c H locs cells slots la Z hC hH hS hl hf
theorem RD.sald {i : Int32} (j : Nat) (hd : decode mt.2.1 pc = .ok (.iaload, 1)) (hi : i = nI j) (hj : j < ek_L K) (hn : ek_L K < 2 ^ 31)
    (kk : RD K mt d (pc + 1) ls (rI (ek_x K j) :: st) D Q) : RD K mt d pc ls (rI i :: rR (16, 0, 0) :: st) D Q := by
  intro p e R s m args below meth c H locs cells slots la Z hC hH hS hl hf
  subst hi
  refine va_sld (b := ek_b K) (A := AA K) hC.1 hC.2.1 hC.2.2.2.2.2.2.2.1 (Nat.lt_of_lt_of_le hC.2.2.2.2.2.2.2.2.1 hC.2.2.2.2.2.2.2.2.2.1) (Nat.not_le.mpr hC.2.2.2.2.2.2.2.2.1) hS (vp_in_nI hj hn) hd ?_
  rw [nI_clamp (by omega)]
  exact kk p e R s m args below meth c H locs cells slots la Z hC hH hS hl hf
theorem RD.slen (hd : decode mt.2.1 pc = .ok (.arraylength, 1)) (kk : RD K mt d (pc + 1) ls (rI (nI (ek_L K)) :: st) D Q) : RD K mt d pc ls (rR (16, 0, 0) :: st) D Q := by
  intro p e R s m args below meth c H locs cells slots la Z hC hH hS hl hf
  exact va_slen (b := ek_b K) (A := AA K) hC.1 hC.2.1 hC.2.2.2.2.2.2.2.1 (Nat.lt_of_lt_of_le hC.2.2.2.2.2.2.2.2.1 hC.2.2.2.2.2.2.2.2.2.1) (Nat.not_le.mpr hC.2.2.2.2.2.2.2.2.1) hS hd (kk p e R s m args below meth c H locs cells slots la Z hC hH hS hl hf)
end RDH
/-! CALLS -/
def PH (K : EK) (D : DT) (U : State) : Prop := HD K D U.heap ∧ va_K (ek_D K) cls7 (tyl K) U ∧ (∀ w ∈ nst, va_Nw w U) ∧ va_X (ek_b K) (ek_L K) (ek_x K) U U.heap ∧ ek_b K < ek_o K ∧ ek_o K ≤ U.heap.size
def QH (K : EK) (Q : Option AV → DT → Prop) : Array Value → State → Outcome → State → Prop := fun _ st oc t => (∃ (r : Option AV) (D' : DT), oc = .returned (r.map (tv K)) ∧ Q r D' ∧ HD K D' t.heap) ∧ va_F (AA K) st t
def rmd (d : Nat) : Room := { frames := d, cells := 0, slots := 0, locals := 26 * d }
def mws (mt : MT) : List Cond := .code mt.1 mt.2.1 mt.2.2.1 mt.2.2.2 :: tbg
def CT (K : EK) (mt : MT) (d : Nat) (av : List AV) (D : DT) (Q : Option AV → DT → Prop) : Prop := Met (ek_l K) mt.1 (mws mt) (rmd d) (va_Pc (av.map (tv K)) (PH K D)) (QH K Q) 0 0 (AA K)
theorem PH_blind (K : EK) (D : DT) (av : List Value) : FrameBlind (va_Pc av (PH K D)) := by
  intro a U g mk h
  obtain ⟨h0, h1, h2, h3, h4, h5, h6⟩ := h
  exact ⟨h0, h1, va_K.moved (u := U) (U := U.calling g mk a) (Vm.Alike.refl U.vm) h2, fun w hw => nst_same hw (u := U) (U := U.calling g mk a) rfl (h3 w hw), va_X.moved (u := U) (U := U.calling g mk a) (Vm.Alike.refl U.vm) h4, h5, h6⟩
theorem PH_of {K : EK} {mt : MT} {d : Nat} {p : Program} {R : Room} {s : State} {m : MethodId} {args : Array Value} {c : Code} {cells slots : Nat} {D : DT} {H : Heap} {locs : List Loc} (hC : RC K mt d p R s m args c cells slots) (hH : HD K D H) (hS : va_S (AA K) s.heap H locs) (U : State) (hU : U.heap = H) (hW : s.WarmedH U.vm) : PH K D U := by
  obtain ⟨-, -, -, -, -, hN, hK, hX, hb, ho, -⟩ := hC
  refine ⟨by rw [hU]; exact hH, va_K.moved hW.alike hK, fun w hw => nst_warm hw hW (hN w hw), ?_, hb, ?_⟩
  · rw [hU]
    exact (hX.kept (hS.2.1 _ (Nat.lt_of_lt_of_le hb ho) (Nat.not_le.mpr hb))).moved hW.alike
  · rw [hU]
    exact Nat.le_trans ho hS.1
theorem CT.mono {K : EK} {mt : MT} {d : Nat} {av : List AV} {D : DT} {Q Q' : Option AV → DT → Prop} (h : CT K mt d av D Q) (hq : ∀ r D', Q r D' → Q' r D') : CT K mt d av D Q' := by
  intro p e ha hc hk s m args below hf hfit hP hT
  obtain ⟨k, o, h1, h2, h3, h4, h5⟩ := h p e ha hc hk s m args below hf hfit hP hT
  obtain ⟨⟨r, D', a1, a2, a3⟩, a4⟩ := h4
  exact ⟨k, o, h1, h2, h3, ⟨⟨r, D', a1, hq r D' a2, a3⟩, a4⟩, h5⟩
theorem CT.of {K : EK} {mt : MT} {d : Nat} {av : List AV} {D : DT} {Q : Option AV → DT → Prop} (hy : plainName mt.1.cls = true) (hl : av.length ≤ mt.2.2.1)
    (h : RD K mt d 0 (av.map some ++ List.replicate (mt.2.2.1 - av.length) none) [] D Q) : CT K mt d av D Q := by
  refine Met.ofW (cc := mt.2.1) (maxL := mt.2.2.1) (ret := mt.2.2.2) hy rfl ?_
  intro p e s m args below meth c s₁ B hml hv
  obtain ⟨rfl, hH, hK, hN, hX, hb, ho⟩ := hv
  have hts : ∀ w ∈ mws mt, w.before (av.map (tv K)).toArray s = true := atoms_spec (ws := mws mt) B.pre
  have hcat : ∀ (q : List AV), lg_sl (q.map (tv K)) = q.map (fun v => Slot.val (tv K v)) := by
    intro q
    induction q with
    | nil => rfl
    | cons v q ih =>
      rcases v with x | _ | a <;> simp [lg_sl, tv, Value.category] at ih ⊢ <;> exact ih
  have hlen : (lg_sl (av.map (tv K))).length ≤ mt.2.2.1 := by rw [hcat]; simpa using hl
  rw [lg_entry_eq]
  have hent := lv_entry (av.map (tv K)) (n := mt.2.2.1) hlen
  refine h p e (headSpec (mws mt) (rmd d)).room s m _ below meth c s.heap [] 0 0 _ _ ⟨B.exec, B.bytes, hml, findClass_of_methodNamed B.named, fun w hw => hts w (List.mem_cons_of_mem _ hw), hN, hK, hX, hb, ho, Nat.le_refl d, Nat.le_refl (26 * d), Nat.le_refl _, Nat.le_refl _⟩ hH va_S.rf ⟨hent.1, hent.2.1, fun i v hi => ?_⟩ ?_
  · by_cases hi2 : i < av.length
    · rw [List.getElem?_append_left (by simpa using hi2), List.getElem?_map] at hi
      have h1 : av[i]? = some v := by
        cases hq : av[i]? with
        | none => rw [hq] at hi; cases hi
        | some w => rw [hq] at hi; cases hi; rfl
      rw [List.getElem?_toArray, hcat, List.getElem?_append_left (by simpa using hi2), List.getElem?_map, h1]
      rfl
    · rw [List.getElem?_append_right (by simpa using hi2)] at hi
      simp [List.getElem?_replicate] at hi
  · intro r D' H' locs' pc' la' hH' hS' hq hr
    have hq' : ∀ t : State, t.heap = H' → s.WarmedH t.vm → QH K Q (av.map (tv K)).toArray s (.returned (r.map (tv K))) t := fun t ht _ => ⟨⟨r, D', rfl, hq, by rw [ht]; exact hH'⟩, hS'.F ht⟩
    rcases r with _ | v | o
    · exact W.vret B.exec B.bytes (B.returns.trans hr.1) hq' hS'.2.2 hr.2 B.notSynchronized
    · obtain ⟨⟨ty, h1, h2⟩, h3⟩ := hr
      exact W.zret B.exec B.bytes (B.returns.trans h1) h2 hq' hS'.2.2 h3 B.notSynchronized
    · obtain ⟨⟨n, h1⟩, h3⟩ := hr
      refine W.aret (v := tv K (.inr o)) B.exec B.bytes (B.returns.trans h1) (Or.inl ⟨n, rfl⟩) ?_ hq' hS'.2.2 h3 B.notSynchronized
      cases o with
      | none => exact Or.inl rfl
      | some a => exact Or.inr ⟨_, rfl⟩
