/-! a constructor's contract, and its call -/
def PF (K : EK) (G : List CE) (U : State) : Prop := HF K G U.heap ∧ va_K (ek_D K) cls7 (tyl K) U ∧ (∀ w ∈ nst, va_Nw w U) ∧ va_X (ek_b K) (ek_L K) (ek_x K) U U.heap ∧ ek_b K < ek_o K ∧ ek_o K ≤ U.heap.size ∧ ∀ C ∈ aos, va_AO C U
def QF (K : EK) (G' : List CE) : Array Value → State → Outcome → State → Prop := fun _ st oc t => (oc = .returned none ∧ HF K G' t.heap) ∧ va_F (AA K) st t
def rmi (d mc ms : Nat) : Room := { frames := d, cells := mc, slots := ms, locals := 26 * d }
def CI (K : EK) (mt : MT) (d mc ms : Nat) (av : List AV) (G G' : List CE) : Prop := Met (ek_l K) mt.1 (mws mt) (rmi d mc ms) (va_Pc (av.map (tv K)) (PF K G)) (QF K G') mc ms (AA K)
theorem PF_blind (K : EK) (G : List CE) (av : List Value) : FrameBlind (va_Pc av (PF K G)) := by
  intro a U g mk h
  obtain ⟨h0, h1, h2, h3, h4, h5, h6, h7⟩ := h
  exact ⟨h0, h1, va_K.moved (u := U) (U := U.calling g mk a) (Vm.Alike.refl U.vm) h2, fun w hw => nst_same hw (u := U) (U := U.calling g mk a) rfl (h3 w hw), va_X.moved (u := U) (U := U.calling g mk a) (Vm.Alike.refl U.vm) h4, h5, h6, fun C hC => va_AO.moved (u := U) (U := U.calling g mk a) (Vm.Alike.refl U.vm) (h7 C hC)⟩
theorem PF_of {K : EK} {mt : MT} {d : Nat} {p : Program} {R : Room} {s : State} {m : MethodId} {args : Array Value} {meth : Method} {c : Code} {N M : Nat} {G : List CE} {H : Heap} {locs : List Loc} (hC : KC K mt d p R s m args meth c N M) (hH : HF K G H) (hS : va_S (AA K) s.heap H locs) (U : State) (hU : U.heap = H) (hW : s.WarmedH U.vm) : PF K G U := by
  obtain ⟨⟨-, -, -, -, -, hN, hK, hX, hb, ho, -⟩, -, hA⟩ := hC
  refine ⟨by rw [hU]; exact hH, va_K.moved hW.alike hK, fun w hw => nst_warm hw hW (hN w hw), ?_, hb, ?_, fun C hC => va_AO.moved hW.alike (hA C hC)⟩
  · rw [hU]
    exact (hX.kept (hS.2.1 _ (Nat.lt_of_lt_of_le hb ho) (Nat.not_le.mpr hb))).moved hW.alike
  · rw [hU]
    exact Nat.le_trans ho hS.1
def EI (mt : MT) (G' : List CE) : Nat → List (Option AV) → List AV → List CE → Prop := fun pc' _ st' G1 => st' = [] ∧ decode mt.2.1 pc' = .ok (.return_, 1) ∧ G1 = G'
theorem CI.of {K : EK} {mt : MT} {d mc ms : Nat} {av : List AV} {G G' : List CE} (ls : List (Option AV)) (hy : plainName mt.1.cls = true) (hl : av.length ≤ mt.2.2.1) (hr : mt.2.2.2 = none) (hls : av.map some ++ List.replicate (mt.2.2.1 - av.length) none = ls)
    (h : RF K mt d mc ms 0 0 0 ls [] G (EI mt G')) : CI K mt d mc ms av G G' := by
  subst hls
  refine Met.ofW (cc := mt.2.1) (maxL := mt.2.2.1) (ret := mt.2.2.2) hy rfl ?_
  intro p e s m args below meth c s₁ B hml hv
  obtain ⟨rfl, hH, hK, hN, hX, hb, ho, hA⟩ := hv
  have hts : ∀ w ∈ mws mt, w.before (av.map (tv K)).toArray s = true := atoms_spec (ws := mws mt) B.pre
  have hcat : ∀ (q : List AV), lg_sl (q.map (tv K)) = q.map (fun v => Slot.val (tv K v)) := by
    intro q
    induction q with
    | nil => rfl
    | cons v q ih =>
      rcases v with x | _ | a <;> simp [lg_sl, tv, Value.category] at ih ⊢ <;> exact ih
  have hlen : (lg_sl (av.map (tv K))).length ≤ mt.2.2.1 := by rw [hcat]; simpa using hl
  rw [lg_entry_eq]
  have hent := lv_entry (av.map (tv K)) (n := mt.2.2.1) hlen
  refine h p e (headSpec (mws mt) (rmi d mc ms)).room s m _ below meth c s.heap [] _ _ ⟨⟨B.exec, B.bytes, hml, findClass_of_methodNamed B.named, fun w hw => hts w (List.mem_cons_of_mem _ hw), hN, hK, hX, hb, ho, Nat.le_refl d, Nat.le_refl (26 * d), Nat.le_refl _, Nat.le_refl _⟩, fun hi => (name_of_methodNamed B.named B.method).1.trans hi, hA⟩ hH va_S.rf ⟨hent.1, hent.2.1, fun i v hi => ?_⟩ ?_
  · by_cases hi2 : i < av.length
    · rw [List.getElem?_append_left (by simpa using hi2), List.getElem?_map] at hi
      have h1 : av[i]? = some v := by
        cases hq : av[i]? with
        | none => rw [hq] at hi; cases hi
        | some w => rw [hq] at hi; cases hi; rfl
      rw [List.getElem?_toArray, hcat, List.getElem?_append_left (by simpa using hi2), List.getElem?_map, h1]
      rfl
    · rw [List.getElem?_append_right (by simpa using hi2)] at hi
      simp [List.getElem?_replicate] at hi
  · intro pc' ls' st' G1 H' locs' la' hE hH' hS' _
    obtain ⟨rfl, hdr, rfl⟩ := hE
    exact W.vret B.exec B.bytes (B.returns.trans hr) (fun t ht _ => ⟨⟨rfl, by rw [ht]; exact hH'⟩, hS'.F ht⟩) hS'.2.2 hdr B.notSynchronized
def ILK (own : String) (idx : Nat) (cm : MT) (n : Nat) : Prop := (Cond.methodLink own idx cm.1 ∈ tbg ∨ ∃ host, Cond.methodLinkNest own idx cm.1 host ∈ nst) ∧ Cond.instanceMethod cm.1 ∈ tbg ∧ Cond.initialized cm.1.cls ∈ tbg ∧ Cond.code cm.1 cm.2.1 cm.2.2.1 cm.2.2.2 ∈ tbg ∧ (cm.1.cls ≠ "java/lang/invoke/MethodHandle" ∧ cm.1.cls ≠ "java/lang/invoke/VarHandle" ∧ (parseMethodDescriptor cm.1.desc).map (fun d => d.parameters.length) = some n) ∧ cm.2.2.1 ≤ 7 ∧ cm.1.name = "<init>" ∧ cm.2.2.2 = none
theorem QF_call {K : EK} {p : Program} {e : Env} {R : Room} {s : State} {m : MethodId} {args : Array Value} {below : List Frame} {meth : Method} {c : Code} {H : Heap} {locs : List Loc} {cells slots mc ms pc : Nat} {la : Array Slot} {st0 rest : List Value} {av : Array Value} {G' : List CE} {Z : State → Prop}
    (hr : va_Run p (ek_l K) e R s m args below meth c H locs cells slots mc ms (F0 m pc la st0) rest (QF K G' av) (AA K)) (hS : va_S (AA K) s.heap H locs)
    (kk : ∀ (H1 : Heap) (locs1 : List Loc), HF K G' H1 → va_S (AA K) s.heap H1 locs1 → W p (ek_l K) e R s m args below meth c H1 locs1 (cells + mc) (slots + ms) Z (F0 m (pc + 3) la rest)) : W p (ek_l K) e R s m args below meth c H locs cells slots Z (F0 m pc la st0) := by
  intro T hT X
  obtain ⟨v, st₀, t, T', L, h0, X', hL, e1, e2, ⟨⟨hv, hH'⟩, hz, hk⟩, st⟩ := hr T hT X
  cases hv
  rw [h0] at hz hk
  obtain ⟨t2, a1, b1⟩ := kk T'.heap (locs ++ L) (by rw [e1]; exact hH')
    ⟨Nat.le_trans hS.1 (by rw [e1]; exact hz), fun q h1 h2 => by rw [e1, hk q (Nat.lt_of_lt_of_le h1 hS.1) h2]; exact hS.2.1 q h1 h2, fun q hq => by
      rcases List.mem_append.mp hq with h | h
      · exact hS.2.2 q h
      · exact hL q h⟩ T' rfl X'
  exact ⟨t2, st t2 a1, b1⟩
theorem RF.callI {K : EK} {mt : MT} {d N M nc ns pc : Nat} {ls : List (Option AV)} {st : List AV} {P S S1 S2 blk : List CE} {o : CE} {E : Nat → List (Option AV) → List AV → List CE → Prop} {a : AD} {idx mc ms k : Nat} {cm : MT} (As : List AV) (hd : decode mt.2.1 pc = .ok (.invokespecial idx, 3)) (hL : ILK mt.1.cls idx cm As.length) (hk : S.length = k) (hla : lay a = P.length + k)
    (hct : ∀ P' : List CE, P'.length = lay a → CI K cm d mc ms (rR a :: As) (P' ++ [o]) (P' ++ blk)) (hst : st.length ≤ 8) (h1 : nc + mc ≤ N) (h2 : ns + ms ≤ M) (hS1 : S1 = S ++ [o]) (hS2 : S ++ blk = S2)
    (kk : RF K mt (d + 1) N M (nc + mc) (ns + ms) (pc + 3) ls st (P ++ S2) E) : RF K mt (d + 1) N M nc ns pc ls (As.reverse ++ rR a :: st) (P ++ S1) E := by
  subst hS1
  subst hS2
  intro p e R s m args below meth c H locs la Z hC hH hS hl hf
  obtain ⟨g1, g2, g4, g5, g6, g7, g8, g9⟩ := hL
  have hts := hC.1.2.2.2.2.1
  have hfr : d + 1 ≤ R.frames := hC.1.2.2.2.2.2.2.2.2.2.2.1
  have hlo : 26 * (d + 1) ≤ R.locals := hC.1.2.2.2.2.2.2.2.2.2.2.2.1
  have hro : 8 + (cm.2.2.1 + 11) + 26 * d ≤ R.locals := by omega
  have hcap : nc + mc ≤ R.cells ∧ ns + ms ≤ R.slots := ⟨Nat.le_trans h1 hC.1.2.2.2.2.2.2.2.2.2.2.2.2.1, Nat.le_trans h2 hC.1.2.2.2.2.2.2.2.2.2.2.2.2.2⟩
  have hct' := hct (P ++ S) (by rw [hla, List.length_append, hk])
  rw [← List.append_assoc] at hH
  have hw : mws cm = Cond.code cm.1 cm.2.1 cm.2.2.1 none :: tbg := by unfold mws; rw [g9]
  have fin : ∀ (H1 : Heap) (locs1 : List Loc), HF K (P ++ S ++ blk) H1 → va_S (AA K) s.heap H1 locs1 → W p (ek_l K) e R s m args below meth c H1 locs1 (nc + mc) (ns + ms) Z (F0 m (pc + 3) la (st.map (tv K))) := by
    intro H1 locs1 hH1 hS1
    rw [List.append_assoc] at hH1
    exact kk p e R s m args below meth c H1 locs1 la Z hC hH1 hS1 hl hf
  rcases g1 with h | ⟨host, h⟩
  · exact QF_call (rest := st.map (tv K)) (va_runI (As := As.map (tv K)) (b := adr K a) ⟨hC.1.1, hC.1.2.1, hC.1.2.2.1, hC.1.2.2.2.1, hts⟩ hct' ⟨callB_of As.length hts (mws_good g5) hw rfl rfl (hts _ g4) (hts _ h) g6 ⟨hfr, hro⟩, g8, hts _ g2⟩ ⟨PF_blind K _ _, fun U hU hW => ⟨rfl, PF_of hC hH hS U hU hW⟩⟩ rfl (by simp) hl.1 (by simp [List.map_reverse, tv]) (lv_room (by rw [tv_sum]; exact hst)) hd hcap) hS fin
  · exact QF_call (rest := st.map (tv K)) (va_runIN (As := As.map (tv K)) (b := adr K a) ⟨hC.1.1, hC.1.2.1, hC.1.2.2.1, hC.1.2.2.2.1, hts⟩ hct' ⟨va_cnB As.length hts (mws_good g5) hw rfl rfl (hC.1.2.2.2.2.2.1 _ h) (hts _ g4) g6 ⟨hfr, hro⟩, g8, hts _ g2⟩ ⟨PF_blind K _ _, fun U hU hW => ⟨rfl, PF_of hC hH hS U hU hW⟩⟩ rfl (by simp) hl.1 (by simp [List.map_reverse, tv]) (lv_room (by rw [tv_sum]; exact hst)) hd hcap) hS fin
theorem RF.call0 {K : EK} {mt : MT} {d N M nc ns pc : Nat} {ls : List (Option AV)} {st : List AV} {P S S1 S2 blk : List CE} {o : CE} {E : Nat → List (Option AV) → List AV → List CE → Prop} {a : AD} {idx mc ms k : Nat} {cm : MT} (hd : decode mt.2.1 pc = .ok (.invokespecial idx, 3)) (hL : ILK mt.1.cls idx cm 0) (hk : S.length = k) (hla : lay a = P.length + k)
    (hct : ∀ P' : List CE, P'.length = lay a → CI K cm d mc ms [rR a] (P' ++ [o]) (P' ++ blk)) (hst : st.length ≤ 8) (h1 : nc + mc ≤ N) (h2 : ns + ms ≤ M) (hS1 : S1 = S ++ [o]) (hS2 : S ++ blk = S2)
    (kk : RF K mt (d + 1) N M (nc + mc) (ns + ms) (pc + 3) ls st (P ++ S2) E) : RF K mt (d + 1) N M nc ns pc ls (rR a :: st) (P ++ S1) E := RF.callI [] hd hL hk hla hct hst h1 h2 hS1 hS2 kk
theorem RF.call1 {K : EK} {mt : MT} {d N M nc ns pc : Nat} {ls : List (Option AV)} {st : List AV} {P S S1 S2 blk : List CE} {o : CE} {E : Nat → List (Option AV) → List AV → List CE → Prop} {a : AD} {idx mc ms k : Nat} {cm : MT} {x1 : AV} (hd : decode mt.2.1 pc = .ok (.invokespecial idx, 3)) (hL : ILK mt.1.cls idx cm 1) (hk : S.length = k) (hla : lay a = P.length + k)
    (hct : ∀ P' : List CE, P'.length = lay a → CI K cm d mc ms [rR a, x1] (P' ++ [o]) (P' ++ blk)) (hst : st.length ≤ 8) (h1 : nc + mc ≤ N) (h2 : ns + ms ≤ M) (hS1 : S1 = S ++ [o]) (hS2 : S ++ blk = S2)
    (kk : RF K mt (d + 1) N M (nc + mc) (ns + ms) (pc + 3) ls st (P ++ S2) E) : RF K mt (d + 1) N M nc ns pc ls (x1 :: rR a :: st) (P ++ S1) E := RF.callI [x1] hd hL hk hla hct hst h1 h2 hS1 hS2 kk
