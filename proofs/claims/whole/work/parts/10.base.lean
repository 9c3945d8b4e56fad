/-! contracts that tell answer and state -/
def CF (K : EK) (cm : MT) (d : Nat) (av : List AV) (D : DT) (r : Option AV) (D' : DT) : Prop := CT K cm d av D (fun r0 D0 => r0 = r ∧ D0 = D')
section CFR
variable {K : EK} {mt : MT} {d pc : Nat} {ls : List (Option AV)} {st : List AV} {D D' : DT} {Q : Option AV → DT → Prop} {a : AD} {cm : MT}
theorem CF.of {av : List AV} {r : Option AV} (ls : List (Option AV)) (hy : plainName mt.1.cls = true) (hl : av.length ≤ mt.2.2.1) (he : av.map some ++ List.replicate (mt.2.2.1 - av.length) none = ls)
    (h : RD K mt d 0 ls [] D (fun r0 D0 => r0 = r ∧ D0 = D')) : CF K mt d av D r D' := CT.of hy hl (by rw [he]; exact h)
theorem CF.to {av : List AV} {r r2 : Option AV} {D2 : DT} (h : CF K mt d av D r D') (h1 : r = r2) (h2 : D' = D2) : CF K mt d av D r2 D2 := by subst h1; subst h2; exact h
theorem CT.to {av : List AV} (ls : List (Option AV)) (hy : plainName mt.1.cls = true) (hl : av.length ≤ mt.2.2.1) (he : av.map some ++ List.replicate (mt.2.2.1 - av.length) none = ls)
    (h : RD K mt d 0 ls [] D Q) : CT K mt d av D Q := CT.of hy hl (by rw [he]; exact h)
theorem RD.cV0 {idx ci : Nat} {fs : List (Option AV)} {T : u_T} {N : Nat} {v : AV} (hd : decode mt.2.1 pc = .ok (.invokevirtual idx, 3)) (hL : VLK mt.1.cls idx cm 0) (hci : cls7[ci]? = some (cm.1.cls, T, N)) (ha : okA a) (hs : sk a = .inl (ci, fs)) (hct : CF K cm d [rR a] D (some v) D') (hst : st.length ≤ 8)
    (kk : RD K mt (d + 1) (pc + 3) ls (v :: st) D' Q) : RD K mt (d + 1) pc ls (rR a :: st) D Q := RD.callV0 hd hL hci ha hs hct hst (fun r D2 h => by obtain ⟨h1, h2⟩ := h; subst h1; subst h2; exact kk)
theorem RD.cV0v {idx ci : Nat} {fs : List (Option AV)} {T : u_T} {N : Nat}  (hd : decode mt.2.1 pc = .ok (.invokevirtual idx, 3)) (hL : VLK mt.1.cls idx cm 0) (hci : cls7[ci]? = some (cm.1.cls, T, N)) (ha : okA a) (hs : sk a = .inl (ci, fs)) (hct : CF K cm d [rR a] D none D') (hst : st.length ≤ 8)
    (kk : RD K mt (d + 1) (pc + 3) ls st D' Q) : RD K mt (d + 1) pc ls (rR a :: st) D Q := RD.callV0 hd hL hci ha hs hct hst (fun r D2 h => by obtain ⟨h1, h2⟩ := h; subst h1; subst h2; exact kk)
theorem RD.cV1 {idx ci : Nat} {fs : List (Option AV)} {T : u_T} {N : Nat} {v : AV} {x1 : AV} (hd : decode mt.2.1 pc = .ok (.invokevirtual idx, 3)) (hL : VLK mt.1.cls idx cm 1) (hci : cls7[ci]? = some (cm.1.cls, T, N)) (ha : okA a) (hs : sk a = .inl (ci, fs)) (hct : CF K cm d [rR a, x1] D (some v) D') (hst : st.length ≤ 8)
    (kk : RD K mt (d + 1) (pc + 3) ls (v :: st) D' Q) : RD K mt (d + 1) pc ls (x1 :: rR a :: st) D Q := RD.callV1 hd hL hci ha hs hct hst (fun r D2 h => by obtain ⟨h1, h2⟩ := h; subst h1; subst h2; exact kk)
theorem RD.cV1v {idx ci : Nat} {fs : List (Option AV)} {T : u_T} {N : Nat}  {x1 : AV} (hd : decode mt.2.1 pc = .ok (.invokevirtual idx, 3)) (hL : VLK mt.1.cls idx cm 1) (hci : cls7[ci]? = some (cm.1.cls, T, N)) (ha : okA a) (hs : sk a = .inl (ci, fs)) (hct : CF K cm d [rR a, x1] D none D') (hst : st.length ≤ 8)
    (kk : RD K mt (d + 1) (pc + 3) ls st D' Q) : RD K mt (d + 1) pc ls (x1 :: rR a :: st) D Q := RD.callV1 hd hL hci ha hs hct hst (fun r D2 h => by obtain ⟨h1, h2⟩ := h; subst h1; subst h2; exact kk)
theorem RD.cV2 {idx ci : Nat} {fs : List (Option AV)} {T : u_T} {N : Nat} {v : AV} {x1 x2 : AV} (hd : decode mt.2.1 pc = .ok (.invokevirtual idx, 3)) (hL : VLK mt.1.cls idx cm 2) (hci : cls7[ci]? = some (cm.1.cls, T, N)) (ha : okA a) (hs : sk a = .inl (ci, fs)) (hct : CF K cm d [rR a, x1, x2] D (some v) D') (hst : st.length ≤ 8)
    (kk : RD K mt (d + 1) (pc + 3) ls (v :: st) D' Q) : RD K mt (d + 1) pc ls (x2 :: x1 :: rR a :: st) D Q := RD.callV2 hd hL hci ha hs hct hst (fun r D2 h => by obtain ⟨h1, h2⟩ := h; subst h1; subst h2; exact kk)
theorem RD.cV2v {idx ci : Nat} {fs : List (Option AV)} {T : u_T} {N : Nat}  {x1 x2 : AV} (hd : decode mt.2.1 pc = .ok (.invokevirtual idx, 3)) (hL : VLK mt.1.cls idx cm 2) (hci : cls7[ci]? = some (cm.1.cls, T, N)) (ha : okA a) (hs : sk a = .inl (ci, fs)) (hct : CF K cm d [rR a, x1, x2] D none D') (hst : st.length ≤ 8)
    (kk : RD K mt (d + 1) (pc + 3) ls st D' Q) : RD K mt (d + 1) pc ls (x2 :: x1 :: rR a :: st) D Q := RD.callV2 hd hL hci ha hs hct hst (fun r D2 h => by obtain ⟨h1, h2⟩ := h; subst h1; subst h2; exact kk)
theorem RD.cV3 {idx ci : Nat} {fs : List (Option AV)} {T : u_T} {N : Nat} {v : AV} {x1 x2 x3 : AV} (hd : decode mt.2.1 pc = .ok (.invokevirtual idx, 3)) (hL : VLK mt.1.cls idx cm 3) (hci : cls7[ci]? = some (cm.1.cls, T, N)) (ha : okA a) (hs : sk a = .inl (ci, fs)) (hct : CF K cm d [rR a, x1, x2, x3] D (some v) D') (hst : st.length ≤ 8)
    (kk : RD K mt (d + 1) (pc + 3) ls (v :: st) D' Q) : RD K mt (d + 1) pc ls (x3 :: x2 :: x1 :: rR a :: st) D Q := RD.callV3 hd hL hci ha hs hct hst (fun r D2 h => by obtain ⟨h1, h2⟩ := h; subst h1; subst h2; exact kk)
theorem RD.cV3v {idx ci : Nat} {fs : List (Option AV)} {T : u_T} {N : Nat}  {x1 x2 x3 : AV} (hd : decode mt.2.1 pc = .ok (.invokevirtual idx, 3)) (hL : VLK mt.1.cls idx cm 3) (hci : cls7[ci]? = some (cm.1.cls, T, N)) (ha : okA a) (hs : sk a = .inl (ci, fs)) (hct : CF K cm d [rR a, x1, x2, x3] D none D') (hst : st.length ≤ 8)
    (kk : RD K mt (d + 1) (pc + 3) ls st D' Q) : RD K mt (d + 1) pc ls (x3 :: x2 :: x1 :: rR a :: st) D Q := RD.callV3 hd hL hci ha hs hct hst (fun r D2 h => by obtain ⟨h1, h2⟩ := h; subst h1; subst h2; exact kk)
theorem RD.cV4 {idx ci : Nat} {fs : List (Option AV)} {T : u_T} {N : Nat} {v : AV} {x1 x2 x3 x4 : AV} (hd : decode mt.2.1 pc = .ok (.invokevirtual idx, 3)) (hL : VLK mt.1.cls idx cm 4) (hci : cls7[ci]? = some (cm.1.cls, T, N)) (ha : okA a) (hs : sk a = .inl (ci, fs)) (hct : CF K cm d [rR a, x1, x2, x3, x4] D (some v) D') (hst : st.length ≤ 8)
    (kk : RD K mt (d + 1) (pc + 3) ls (v :: st) D' Q) : RD K mt (d + 1) pc ls (x4 :: x3 :: x2 :: x1 :: rR a :: st) D Q := RD.callV4 hd hL hci ha hs hct hst (fun r D2 h => by obtain ⟨h1, h2⟩ := h; subst h1; subst h2; exact kk)
theorem RD.cV4v {idx ci : Nat} {fs : List (Option AV)} {T : u_T} {N : Nat}  {x1 x2 x3 x4 : AV} (hd : decode mt.2.1 pc = .ok (.invokevirtual idx, 3)) (hL : VLK mt.1.cls idx cm 4) (hci : cls7[ci]? = some (cm.1.cls, T, N)) (ha : okA a) (hs : sk a = .inl (ci, fs)) (hct : CF K cm d [rR a, x1, x2, x3, x4] D none D') (hst : st.length ≤ 8)
    (kk : RD K mt (d + 1) (pc + 3) ls st D' Q) : RD K mt (d + 1) pc ls (x4 :: x3 :: x2 :: x1 :: rR a :: st) D Q := RD.callV4 hd hL hci ha hs hct hst (fun r D2 h => by obtain ⟨h1, h2⟩ := h; subst h1; subst h2; exact kk)
theorem RD.cV5 {idx ci : Nat} {fs : List (Option AV)} {T : u_T} {N : Nat} {v : AV} {x1 x2 x3 x4 x5 : AV} (hd : decode mt.2.1 pc = .ok (.invokevirtual idx, 3)) (hL : VLK mt.1.cls idx cm 5) (hci : cls7[ci]? = some (cm.1.cls, T, N)) (ha : okA a) (hs : sk a = .inl (ci, fs)) (hct : CF K cm d [rR a, x1, x2, x3, x4, x5] D (some v) D') (hst : st.length ≤ 8)
    (kk : RD K mt (d + 1) (pc + 3) ls (v :: st) D' Q) : RD K mt (d + 1) pc ls (x5 :: x4 :: x3 :: x2 :: x1 :: rR a :: st) D Q := RD.callV5 hd hL hci ha hs hct hst (fun r D2 h => by obtain ⟨h1, h2⟩ := h; subst h1; subst h2; exact kk)
theorem RD.cV5v {idx ci : Nat} {fs : List (Option AV)} {T : u_T} {N : Nat}  {x1 x2 x3 x4 x5 : AV} (hd : decode mt.2.1 pc = .ok (.invokevirtual idx, 3)) (hL : VLK mt.1.cls idx cm 5) (hci : cls7[ci]? = some (cm.1.cls, T, N)) (ha : okA a) (hs : sk a = .inl (ci, fs)) (hct : CF K cm d [rR a, x1, x2, x3, x4, x5] D none D') (hst : st.length ≤ 8)
    (kk : RD K mt (d + 1) (pc + 3) ls st D' Q) : RD K mt (d + 1) pc ls (x5 :: x4 :: x3 :: x2 :: x1 :: rR a :: st) D Q := RD.callV5 hd hL hci ha hs hct hst (fun r D2 h => by obtain ⟨h1, h2⟩ := h; subst h1; subst h2; exact kk)
theorem RD.cS1 {idx : Nat} {v : AV} {x1 : AV} (hd : decode mt.2.1 pc = .ok (.invokestatic idx, 3)) (hL : SLK mt.1.cls idx cm 1) (hct : CF K cm d [x1] D (some v) D') (hst : st.length ≤ 8)
    (kk : RD K mt (d + 1) (pc + 3) ls (v :: st) D' Q) : RD K mt (d + 1) pc ls (x1 :: st) D Q := RD.callS1 hd hL hct hst (fun r D2 h => by obtain ⟨h1, h2⟩ := h; subst h1; subst h2; exact kk)
theorem RD.cS1v {idx : Nat}  {x1 : AV} (hd : decode mt.2.1 pc = .ok (.invokestatic idx, 3)) (hL : SLK mt.1.cls idx cm 1) (hct : CF K cm d [x1] D none D') (hst : st.length ≤ 8)
    (kk : RD K mt (d + 1) (pc + 3) ls st D' Q) : RD K mt (d + 1) pc ls (x1 :: st) D Q := RD.callS1 hd hL hct hst (fun r D2 h => by obtain ⟨h1, h2⟩ := h; subst h1; subst h2; exact kk)
theorem RD.cS2 {idx : Nat} {v : AV} {x1 x2 : AV} (hd : decode mt.2.1 pc = .ok (.invokestatic idx, 3)) (hL : SLK mt.1.cls idx cm 2) (hct : CF K cm d [x1, x2] D (some v) D') (hst : st.length ≤ 8)
    (kk : RD K mt (d + 1) (pc + 3) ls (v :: st) D' Q) : RD K mt (d + 1) pc ls (x2 :: x1 :: st) D Q := RD.callS2 hd hL hct hst (fun r D2 h => by obtain ⟨h1, h2⟩ := h; subst h1; subst h2; exact kk)
theorem RD.cS2v {idx : Nat}  {x1 x2 : AV} (hd : decode mt.2.1 pc = .ok (.invokestatic idx, 3)) (hL : SLK mt.1.cls idx cm 2) (hct : CF K cm d [x1, x2] D none D') (hst : st.length ≤ 8)
    (kk : RD K mt (d + 1) (pc + 3) ls st D' Q) : RD K mt (d + 1) pc ls (x2 :: x1 :: st) D Q := RD.callS2 hd hL hct hst (fun r D2 h => by obtain ⟨h1, h2⟩ := h; subst h1; subst h2; exact kk)
theorem RD.cS3 {idx : Nat} {v : AV} {x1 x2 x3 : AV} (hd : decode mt.2.1 pc = .ok (.invokestatic idx, 3)) (hL : SLK mt.1.cls idx cm 3) (hct : CF K cm d [x1, x2, x3] D (some v) D') (hst : st.length ≤ 8)
    (kk : RD K mt (d + 1) (pc + 3) ls (v :: st) D' Q) : RD K mt (d + 1) pc ls (x3 :: x2 :: x1 :: st) D Q := RD.callS3 hd hL hct hst (fun r D2 h => by obtain ⟨h1, h2⟩ := h; subst h1; subst h2; exact kk)
theorem RD.cS3v {idx : Nat}  {x1 x2 x3 : AV} (hd : decode mt.2.1 pc = .ok (.invokestatic idx, 3)) (hL : SLK mt.1.cls idx cm 3) (hct : CF K cm d [x1, x2, x3] D none D') (hst : st.length ≤ 8)
    (kk : RD K mt (d + 1) (pc + 3) ls st D' Q) : RD K mt (d + 1) pc ls (x3 :: x2 :: x1 :: st) D Q := RD.callS3 hd hL hct hst (fun r D2 h => by obtain ⟨h1, h2⟩ := h; subst h1; subst h2; exact kk)
end CFR
/-! which addresses there are -/
theorem ok0 : okA (0, 0, 0) := by unfold okA; decide +kernel
theorem ok1 : okA (1, 0, 0) := by unfold okA; decide +kernel
theorem ok2 : ∀ {i : Nat}, i < 8 → okA (2, i, 0) := by
  have h : ∀ i, i < 8 → allA[lay (2, i, 0)]? = some (2, i, 0) := by decide +kernel
  exact fun {i} hi => h i hi
theorem ok3 : ∀ {i : Nat}, i < 8 → okA (3, i, 0) := by
  have h : ∀ i, i < 8 → allA[lay (3, i, 0)]? = some (3, i, 0) := by decide +kernel
  exact fun {i} hi => h i hi
theorem ok4 : ∀ {i j : Nat}, i < 8 → j < 19 → okA (4, i, j) := by
  have h : ∀ i, i < 8 → ∀ j, j < 19 → allA[lay (4, i, j)]? = some (4, i, j) := by decide +kernel
  exact fun {i j} hi hj => h i hi j hj
theorem ok4L : okA (4, 8, 0) := by unfold okA; decide +kernel
theorem ok6 : ∀ {i : Nat}, i < 8 → okA (6, i, 0) := by
  have h : ∀ i, i < 8 → allA[lay (6, i, 0)]? = some (6, i, 0) := by decide +kernel
  exact fun {i} hi => h i hi
theorem ok7 : ∀ {i : Nat}, i < 8 → okA (7, i, 0) := by
  have h : ∀ i, i < 8 → allA[lay (7, i, 0)]? = some (7, i, 0) := by decide +kernel
  exact fun {i} hi => h i hi
theorem ok8 : ∀ {i j : Nat}, i < 8 → j < 8 → okA (8, i, j) := by
  have h : ∀ i, i < 8 → ∀ j, j < 8 → allA[lay (8, i, j)]? = some (8, i, j) := by decide +kernel
  exact fun {i j} hi hj => h i hi j hj
theorem ok9 : ∀ {i : Nat}, i < 8 → okA (9, i, 0) := by
  have h : ∀ i, i < 8 → allA[lay (9, i, 0)]? = some (9, i, 0) := by decide +kernel
  exact fun {i} hi => h i hi
theorem ok10 : ∀ {i : Nat}, i < 8 → okA (10, i, 0) := by
  have h : ∀ i, i < 8 → allA[lay (10, i, 0)]? = some (10, i, 0) := by decide +kernel
  exact fun {i} hi => h i hi
theorem ok11 : ∀ {i : Nat}, i < 8 → okA (11, i, 0) := by
  have h : ∀ i, i < 8 → allA[lay (11, i, 0)]? = some (11, i, 0) := by decide +kernel
  exact fun {i} hi => h i hi
theorem ok12 : ∀ {i j : Nat}, i < 8 → j < 8 → okA (12, i, j) := by
  have h : ∀ i, i < 8 → ∀ j, j < 8 → allA[lay (12, i, j)]? = some (12, i, j) := by decide +kernel
  exact fun {i j} hi hj => h i hi j hj
theorem ok13 : ∀ {i j : Nat}, i < 8 → j < 8 → okA (13, i, j) := by
  have h : ∀ i, i < 8 → ∀ j, j < 8 → allA[lay (13, i, j)]? = some (13, i, j) := by decide +kernel
  exact fun {i j} hi hj => h i hi j hj
theorem ok14 : okA (14, 0, 0) := by unfold okA; decide +kernel
theorem ok15 : ∀ {j : Nat}, j < 17 → okA (15, j, 0) := by
  have h : ∀ j, j < 17 → allA[lay (15, j, 0)]? = some (15, j, 0) := by decide +kernel
  exact fun {j} hj => h j hj
theorem ok45 {i j : Nat} (h : okA (4, i, j)) : okA (5, i, j) := by
  have key : ∀ k, k < 574 → (match allA[k]? with | some (4, i, j) => allA[lay (5, i, j)]? == some (5, i, j) | _ => true) = true := by decide +kernel
  have hl : lay (4, i, j) < 574 := by rw [← allA_len]; exact (List.getElem?_eq_some_iff.mp h).1
  have := key _ hl
  rw [show allA[lay (4, i, j)]? = some (4, i, j) from h] at this
  exact eq_of_beq this
/-! what a state holds, after it was changed -/
theorem up_s {D : DT} {a : AD} {k : Nat} {x : Int32} : up D a k x a k = x := by simp [up, upd]
theorem up_n {D : DT} {a a' : AD} {k : Nat} {x : Int32} (h : a' ≠ a) : up D a k x a' = D a' := by simp [up, h]
theorem up_k {D : DT} {a : AD} {k k' : Nat} {x : Int32} (h : k' ≠ k) : up D a k x a k' = D a k' := by simp [up, upd, h]
theorem up_at {D : DT} {a a' : AD} {k k' : Nat} {x : Int32} : up D a k x a' k' = if a' = a ∧ k' = k then x else D a' k' := by
  by_cases h : a' = a
  · subst h
    by_cases h2 : k' = k
    · subst h2; simp [up, upd]
    · simp [up, upd, h2]
  · simp [up, h]
def bI (b : Bool) : Int32 := if b then 1 else 0
theorem nar_bI (b : Bool) : narrow .boolean (.int (bI b)) = .int (bI b) := by cases b <;> rfl
theorem bI_0 {b : Bool} (h : bI b = 0) : b = false := by cases b <;> simp_all [bI]
theorem bI_1 {b : Bool} (h : ¬ bI b = 0) : b = true := by cases b <;> simp_all [bI]
theorem leb {a b : Nat} (h : Nat.ble a b = true) : a ≤ b := Nat.le_of_ble_eq_true h
section RDV
variable {K : EK} {mt : MT} {d pc : Nat} {ls : List (Option AV)} {st : List AV} {D : DT} {Q : Option AV → DT → Prop} {a : AD}
theorem RD.gI {idx ci k : Nat} {fs : List (Option AV)} {v : Int32} (hv : D a k = v) (hd : decode mt.2.1 pc = .ok (.getfield idx, 3)) (hF : FLK mt.1.cls idx ci k) (ha : okA a) (hs : sk a = .inl (ci, fs)) (ho : fs[k]? = some none) (kk : RD K mt d (pc + 3) ls (rI v :: st) D Q) : RD K mt d pc ls (rR a :: st) D Q := by
  subst hv; exact RD.getI hd hF ha hs ho kk
theorem RD.iL {n : Nat} {i v : Int32} (j : Nat) (hv : D a j = v) (hd : decode mt.2.1 pc = .ok (.iaload, 1)) (ha : okA a) (hs : sk a = .inr (.inl (0, n))) (hi : i = nI j) (hj : j < n) (hn : n < 2 ^ 31) (kk : RD K mt d (pc + 1) ls (rI v :: st) D Q) : RD K mt d pc ls (rI i :: rR a :: st) D Q := by
  subst hv; exact RD.iald j hd ha hs hi hj hn kk
theorem RD.zL {n : Nat} {i v : Int32} (j : Nat) (hv : D a j = v) (hd : decode mt.2.1 pc = .ok (.baload, 1)) (ha : okA a) (hs : sk a = .inr (.inl (1, n))) (hi : i = nI j) (hj : j < n) (hn : n < 2 ^ 31) (kk : RD K mt d (pc + 1) ls (rI v :: st) D Q) : RD K mt d pc ls (rI i :: rR a :: st) D Q := by
  subst hv; exact RD.zald j hd ha hs hi hj hn kk
theorem RD.eqI {x y : Int32} (h : x = y) (k : RD K mt d pc ls (rI y :: st) D Q) : RD K mt d pc ls (rI x :: st) D Q := by rw [h]; exact k
theorem RD.eqD {D' : DT} (h : D = D') (k : RD K mt d pc ls st D' Q) : RD K mt d pc ls st D Q := by rw [h]; exact k
theorem RD.eqL {ls' : List (Option AV)} (h : ls = ls') (k : RD K mt d pc ls' st D Q) : RD K mt d pc ls st D Q := by rw [h]; exact k
end RDV
theorem up_N {D : DT} {a a' : AD} {k k' : Nat} {x v : Int32} (h : a' ≠ a) (hv : D a' k' = v) : up D a k x a' k' = v := by rw [up_n h]; exact hv
theorem up_K {D : DT} {a : AD} {k k' : Nat} {x v : Int32} (h : k' ≠ k) (hv : D a k' = v) : up D a k x a k' = v := by rw [up_k h]; exact hv
theorem RD.forget {K : EK} {mt : MT} {d pc : Nat} {ls : List (Option AV)} {st : List AV} {D : DT} {Q : Option AV → DT → Prop} (k : Nat) {ls' : List (Option AV)} (he : ls.set k none = ls') (h : RD K mt d pc ls' st D Q) : RD K mt d pc ls st D Q := by
  subst he
  intro p e R s m args below meth c H locs cells slots la Z hC hH hS hl hf
  refine h p e R s m args below meth c H locs cells slots la Z hC hH hS ⟨hl.1, hl.2.1, fun i v hi => hl.2.2 i v ?_⟩ hf
  by_cases hik : i = k
  · subst hik
    have hlen : i < ls.length := by simpa using (List.getElem?_eq_some_iff.mp hi).1
    rw [List.getElem?_set_self hlen] at hi
    cases hi
  · rwa [List.getElem?_set_ne (Ne.symm hik)] at hi
