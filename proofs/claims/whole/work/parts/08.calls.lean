theorem tbg_good : GoodIn tbg tbg := fun w hw => ⟨hw, good_of_word (List.mem_filter.mp hw).2⟩
theorem mws_good {cm : MT} (hc : Cond.code cm.1 cm.2.1 cm.2.2.1 cm.2.2.2 ∈ tbg) : GoodIn tbg (mws cm) := fun w hw => by
  rcases List.mem_cons.mp hw with h | h
  · subst h; exact tbg_good _ hc
  · exact tbg_good _ h
def VLK (own : String) (idx : Nat) (cm : MT) (n : Nat) : Prop := Cond.methodLink own idx cm.1 ∈ tbg ∧ Cond.instanceMethod cm.1 ∈ tbg ∧ Cond.selects cm.1.cls cm.1 cm.1 ∈ tbg ∧ Cond.initialized cm.1.cls ∈ tbg ∧ Cond.code cm.1 cm.2.1 cm.2.2.1 cm.2.2.2 ∈ tbg ∧ (cm.1.cls ≠ "java/lang/invoke/MethodHandle" ∧ cm.1.cls ≠ "java/lang/invoke/VarHandle" ∧ (parseMethodDescriptor cm.1.desc).map (fun d => d.parameters.length) = some n) ∧ cm.2.2.1 ≤ 7
def SLK (own : String) (idx : Nat) (cm : MT) (n : Nat) : Prop := (Cond.methodLink own idx cm.1 ∈ tbg ∨ ∃ host, Cond.methodLinkNest own idx cm.1 host ∈ nst) ∧ Cond.static cm.1 ∈ tbg ∧ Cond.initialized cm.1.cls ∈ tbg ∧ Cond.code cm.1 cm.2.1 cm.2.2.1 cm.2.2.2 ∈ tbg ∧ (cm.1.cls ≠ "java/lang/invoke/MethodHandle" ∧ cm.1.cls ≠ "java/lang/invoke/VarHandle" ∧ (parseMethodDescriptor cm.1.desc).map (fun d => d.parameters.length) = some n) ∧ cm.2.2.1 ≤ 7
theorem tv_sum (K : EK) (st : List AV) : ((st.map (tv K)).map fun v => v.category).sum = st.length := by
  induction st with
  | nil => rfl
  | cons v q ih => simp only [List.map_cons, List.sum_cons, List.length_cons, tv_cat, ih]; omega
theorem QH_call {K : EK} {p : Program} {e : Env} {R : Room} {s : State} {m : MethodId} {args : Array Value} {below : List Frame} {meth : Method} {c : Code} {H : Heap} {locs : List Loc} {cells slots pc : Nat} {la : Array Slot} {st0 rest : List Value} {av : Array Value} {Q' : Option AV → DT → Prop} {Z : State → Prop}
    (hr : va_Run p (ek_l K) e R s m args below meth c H locs cells slots 0 0 (F0 m pc la st0) rest (QH K Q' av) (AA K)) (hS : va_S (AA K) s.heap H locs)
    (kk : ∀ (r : Option AV) (D' : DT) (H1 : Heap) (locs1 : List Loc), Q' r D' → HD K D' H1 → va_S (AA K) s.heap H1 locs1 → W p (ek_l K) e R s m args below meth c H1 locs1 cells slots Z (F0 m (pc + 3) la ((r.map (tv K)).toList ++ rest))) : W p (ek_l K) e R s m args below meth c H locs cells slots Z (F0 m pc la st0) := by
  intro T hT X
  obtain ⟨v, st₀, t, T', L, h0, X', hL, e1, e2, ⟨⟨r, D', hv, hq, hH'⟩, hz, hk⟩, st⟩ := hr T hT X
  cases hv
  rw [h0] at hz hk
  obtain ⟨t2, a1, b1⟩ := kk r D' T'.heap (locs ++ L) hq (by rw [e1]; exact hH')
    ⟨Nat.le_trans hS.1 (by rw [e1]; exact hz), fun q h1 h2 => by rw [e1, hk q (Nat.lt_of_lt_of_le h1 hS.1) h2]; exact hS.2.1 q h1 h2, fun q hq => by
      rcases List.mem_append.mp hq with h | h
      · exact hS.2.2 q h
      · exact hL q h⟩ T' rfl X'
  exact ⟨t2, st t2 a1, b1⟩
section RDC
variable {K : EK} {mt : MT} {d pc : Nat} {ls : List (Option AV)} {st : List AV} {D : DT} {Q Q' : Option AV → DT → Prop} {a : AD}
theorem RD.callV {idx ci : Nat} {fs : List (Option AV)} {cm : MT} {T : u_T} {N : Nat} (As : List AV) (hd : decode mt.2.1 pc = .ok (.invokevirtual idx, 3)) (hL : VLK mt.1.cls idx cm As.length) (hci : cls7[ci]? = some (cm.1.cls, T, N)) (ha : okA a) (hs : sk a = .inl (ci, fs)) (hct : CT K cm d (rR a :: As) D Q') (hst : st.length ≤ 8)
    (kk : ∀ r D', Q' r D' → RD K mt (d + 1) (pc + 3) ls (r.toList ++ st) D' Q) : RD K mt (d + 1) pc ls (As.reverse ++ rR a :: st) D Q := by
  intro p e R s m args below meth c H locs cells slots la Z hC hH hS hl hf
  obtain ⟨h1, h2, h3, h4, h5, h6, h7⟩ := hL
  have he : (wl K D)[lay a]? = some (adr K a, .inr (ci, fld K fs 0 (D a))) := by rw [wl_at ha, te_obj hs]
  have hfr : d + 1 ≤ R.frames := hC.2.2.2.2.2.2.2.2.2.2.1
  have hlo : 26 * (d + 1) ≤ R.locals := hC.2.2.2.2.2.2.2.2.2.2.2.1
  have hG : GoodIn tbg (wsV mt.1.cls idx cm.1.cls cm.1 (mws cm)) := by
    refine fun w hw => ?_
    unfold wsV at hw
    rcases List.mem_append.mp hw with h | h
    · simp only [List.mem_cons, List.not_mem_nil, or_false] at h
      rcases h with rfl | rfl | rfl | rfl
      · exact tbg_good _ h1
      · exact tbg_good _ h2
      · exact tbg_good _ h3
      · exact tbg_good _ h4
    · exact mws_good h5 w h
  refine QH_call (rest := st.map (tv K)) (va_runV (As := As.map (tv K)) (b := adr K a) (C := cm.1.cls) ⟨hC.1, hC.2.1, hC.2.2.1, hC.2.2.2.1, hC.2.2.2.2.1⟩ hct (cwV As.length hC.2.2.2.2.1 hG rfl rfl rfl ⟨rfl, h6⟩ ⟨hfr, by show 8 + (cm.2.2.1 + 11) + 26 * d ≤ R.locals; omega⟩) ⟨PH_blind K D _, va_recv hC.2.2.2.2.2.2.1 hH hci he, fun U hU hW => ⟨rfl, PH_of hC hH hS U hU hW⟩⟩ rfl (by simp) hl.1 (by simp [List.map_reverse, tv]) (lv_room (by rw [tv_sum]; exact hst)) hd ⟨hC.2.2.2.2.2.2.2.2.2.2.2.2.1, hC.2.2.2.2.2.2.2.2.2.2.2.2.2⟩) hS ?_
  intro r D' H1 locs1 hq hH1 hS1
  have := kk r D' hq p e R s m args below meth c H1 locs1 cells slots la Z hC hH1 hS1 hl hf
  cases r with
  | none => exact this
  | some v => exact this
theorem RD.callS {idx : Nat} {cm : MT} (As : List AV) (hd : decode mt.2.1 pc = .ok (.invokestatic idx, 3)) (hL : SLK mt.1.cls idx cm As.length) (hct : CT K cm d As D Q') (hst : st.length ≤ 8)
    (kk : ∀ r D', Q' r D' → RD K mt (d + 1) (pc + 3) ls (r.toList ++ st) D' Q) : RD K mt (d + 1) pc ls (As.reverse ++ st) D Q := by
  intro p e R s m args below meth c H locs cells slots la Z hC hH hS hl hf
  obtain ⟨h1, h2, h4, h5, h6, h7⟩ := hL
  have hfr : d + 1 ≤ R.frames := hC.2.2.2.2.2.2.2.2.2.2.1
  have hlo : 26 * (d + 1) ≤ R.locals := hC.2.2.2.2.2.2.2.2.2.2.2.1
  have hro : 8 + (cm.2.2.1 + 11) + 26 * d ≤ R.locals := by omega
  have fin : ∀ (r : Option AV) (D' : DT) (H1 : Heap) (locs1 : List Loc), Q' r D' → HD K D' H1 → va_S (AA K) s.heap H1 locs1 → W p (ek_l K) e R s m args below meth c H1 locs1 cells slots Z (F0 m (pc + 3) la ((r.map (tv K)).toList ++ st.map (tv K))) := by
    intro r D' H1 locs1 hq hH1 hS1
    have := kk r D' hq p e R s m args below meth c H1 locs1 cells slots la Z hC hH1 hS1 hl hf
    cases r with
    | none => exact this
    | some v => exact this
  rcases h1 with h1 | ⟨host, h1⟩
  · exact QH_call (rest := st.map (tv K)) (va_runS (As := As.map (tv K)) ⟨hC.1, hC.2.1, hC.2.2.1, hC.2.2.2.1, hC.2.2.2.2.1⟩ hct ⟨callB_of As.length hC.2.2.2.2.1 (mws_good h5) rfl rfl rfl (hC.2.2.2.2.1 _ h4) (hC.2.2.2.2.1 _ h1) h6 ⟨hfr, hro⟩, hC.2.2.2.2.1 _ h2⟩ ⟨PH_blind K D _, fun U hU hW => ⟨rfl, PH_of hC hH hS U hU hW⟩⟩ rfl (by simp) hl.1 (by simp [List.map_reverse]) (lv_room (by rw [tv_sum]; exact hst)) hd ⟨hC.2.2.2.2.2.2.2.2.2.2.2.2.1, hC.2.2.2.2.2.2.2.2.2.2.2.2.2⟩) hS fin
  · exact QH_call (rest := st.map (tv K)) (va_runSN (As := As.map (tv K)) ⟨hC.1, hC.2.1, hC.2.2.1, hC.2.2.2.1, hC.2.2.2.2.1⟩ hct ⟨va_cnB As.length hC.2.2.2.2.1 (mws_good h5) rfl rfl rfl (hC.2.2.2.2.2.1 _ h1) (hC.2.2.2.2.1 _ h4) h6 ⟨hfr, hro⟩, hC.2.2.2.2.1 _ h2, trivial⟩ ⟨PH_blind K D _, fun U hU hW => ⟨rfl, PH_of hC hH hS U hU hW⟩⟩ rfl (by simp) hl.1 (by simp [List.map_reverse]) (lv_room (by rw [tv_sum]; exact hst)) hd ⟨hC.2.2.2.2.2.2.2.2.2.2.2.2.1, hC.2.2.2.2.2.2.2.2.2.2.2.2.2⟩) hS fin
theorem RD.callV0 {idx ci : Nat} {fs : List (Option AV)} {cm : MT} {T : u_T} {N : Nat} (hd : decode mt.2.1 pc = .ok (.invokevirtual idx, 3)) (hL : VLK mt.1.cls idx cm 0) (hci : cls7[ci]? = some (cm.1.cls, T, N)) (ha : okA a) (hs : sk a = .inl (ci, fs)) (hct : CT K cm d [rR a] D Q') (hst : st.length ≤ 8)
    (kk : ∀ r D', Q' r D' → RD K mt (d + 1) (pc + 3) ls (r.toList ++ st) D' Q) : RD K mt (d + 1) pc ls (rR a :: st) D Q := RD.callV [] hd hL hci ha hs hct hst kk
theorem RD.callV1 {idx ci : Nat} {fs : List (Option AV)} {cm : MT} {T : u_T} {N : Nat} {x1 : AV} (hd : decode mt.2.1 pc = .ok (.invokevirtual idx, 3)) (hL : VLK mt.1.cls idx cm 1) (hci : cls7[ci]? = some (cm.1.cls, T, N)) (ha : okA a) (hs : sk a = .inl (ci, fs)) (hct : CT K cm d [rR a, x1] D Q') (hst : st.length ≤ 8)
    (kk : ∀ r D', Q' r D' → RD K mt (d + 1) (pc + 3) ls (r.toList ++ st) D' Q) : RD K mt (d + 1) pc ls (x1 :: rR a :: st) D Q := RD.callV [x1] hd hL hci ha hs hct hst kk
theorem RD.callV2 {idx ci : Nat} {fs : List (Option AV)} {cm : MT} {T : u_T} {N : Nat} {x1 x2 : AV} (hd : decode mt.2.1 pc = .ok (.invokevirtual idx, 3)) (hL : VLK mt.1.cls idx cm 2) (hci : cls7[ci]? = some (cm.1.cls, T, N)) (ha : okA a) (hs : sk a = .inl (ci, fs)) (hct : CT K cm d [rR a, x1, x2] D Q') (hst : st.length ≤ 8)
    (kk : ∀ r D', Q' r D' → RD K mt (d + 1) (pc + 3) ls (r.toList ++ st) D' Q) : RD K mt (d + 1) pc ls (x2 :: x1 :: rR a :: st) D Q := RD.callV [x1, x2] hd hL hci ha hs hct hst kk
theorem RD.callV3 {idx ci : Nat} {fs : List (Option AV)} {cm : MT} {T : u_T} {N : Nat} {x1 x2 x3 : AV} (hd : decode mt.2.1 pc = .ok (.invokevirtual idx, 3)) (hL : VLK mt.1.cls idx cm 3) (hci : cls7[ci]? = some (cm.1.cls, T, N)) (ha : okA a) (hs : sk a = .inl (ci, fs)) (hct : CT K cm d [rR a, x1, x2, x3] D Q') (hst : st.length ≤ 8)
    (kk : ∀ r D', Q' r D' → RD K mt (d + 1) (pc + 3) ls (r.toList ++ st) D' Q) : RD K mt (d + 1) pc ls (x3 :: x2 :: x1 :: rR a :: st) D Q := RD.callV [x1, x2, x3] hd hL hci ha hs hct hst kk
theorem RD.callV4 {idx ci : Nat} {fs : List (Option AV)} {cm : MT} {T : u_T} {N : Nat} {x1 x2 x3 x4 : AV} (hd : decode mt.2.1 pc = .ok (.invokevirtual idx, 3)) (hL : VLK mt.1.cls idx cm 4) (hci : cls7[ci]? = some (cm.1.cls, T, N)) (ha : okA a) (hs : sk a = .inl (ci, fs)) (hct : CT K cm d [rR a, x1, x2, x3, x4] D Q') (hst : st.length ≤ 8)
    (kk : ∀ r D', Q' r D' → RD K mt (d + 1) (pc + 3) ls (r.toList ++ st) D' Q) : RD K mt (d + 1) pc ls (x4 :: x3 :: x2 :: x1 :: rR a :: st) D Q := RD.callV [x1, x2, x3, x4] hd hL hci ha hs hct hst kk
theorem RD.callV5 {idx ci : Nat} {fs : List (Option AV)} {cm : MT} {T : u_T} {N : Nat} {x1 x2 x3 x4 x5 : AV} (hd : decode mt.2.1 pc = .ok (.invokevirtual idx, 3)) (hL : VLK mt.1.cls idx cm 5) (hci : cls7[ci]? = some (cm.1.cls, T, N)) (ha : okA a) (hs : sk a = .inl (ci, fs)) (hct : CT K cm d [rR a, x1, x2, x3, x4, x5] D Q') (hst : st.length ≤ 8)
    (kk : ∀ r D', Q' r D' → RD K mt (d + 1) (pc + 3) ls (r.toList ++ st) D' Q) : RD K mt (d + 1) pc ls (x5 :: x4 :: x3 :: x2 :: x1 :: rR a :: st) D Q := RD.callV [x1, x2, x3, x4, x5] hd hL hci ha hs hct hst kk
theorem RD.callS1 {idx : Nat} {cm : MT} {x1 : AV} (hd : decode mt.2.1 pc = .ok (.invokestatic idx, 3)) (hL : SLK mt.1.cls idx cm 1) (hct : CT K cm d [x1] D Q') (hst : st.length ≤ 8)
    (kk : ∀ r D', Q' r D' → RD K mt (d + 1) (pc + 3) ls (r.toList ++ st) D' Q) : RD K mt (d + 1) pc ls (x1 :: st) D Q := RD.callS [x1] hd hL hct hst kk
theorem RD.callS2 {idx : Nat} {cm : MT} {x1 x2 : AV} (hd : decode mt.2.1 pc = .ok (.invokestatic idx, 3)) (hL : SLK mt.1.cls idx cm 2) (hct : CT K cm d [x1, x2] D Q') (hst : st.length ≤ 8)
    (kk : ∀ r D', Q' r D' → RD K mt (d + 1) (pc + 3) ls (r.toList ++ st) D' Q) : RD K mt (d + 1) pc ls (x2 :: x1 :: st) D Q := RD.callS [x1, x2] hd hL hct hst kk
theorem RD.callS3 {idx : Nat} {cm : MT} {x1 x2 x3 : AV} (hd : decode mt.2.1 pc = .ok (.invokestatic idx, 3)) (hL : SLK mt.1.cls idx cm 3) (hct : CT K cm d [x1, x2, x3] D Q') (hst : st.length ≤ 8)
    (kk : ∀ r D', Q' r D' → RD K mt (d + 1) (pc + 3) ls (r.toList ++ st) D' Q) : RD K mt (d + 1) pc ls (x3 :: x2 :: x1 :: st) D Q := RD.callS [x1, x2, x3] hd hL hct hst kk
end RDC
