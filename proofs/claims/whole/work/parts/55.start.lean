theorem isX0 : Cond.instantiable RX0 4 ∈ tbg := tbg_in (List.mem_of_getElem? (i := 86) (by decide +kernel)) (by decide +kernel)
theorem isX1 : Cond.instantiable RX1 3 ∈ tbg := tbg_in (List.mem_of_getElem? (i := 79) (by decide +kernel)) (by decide +kernel)
theorem isX2 : Cond.instantiable RX2 15 ∈ tbg := tbg_in (List.mem_of_getElem? (i := 57) (by decide +kernel)) (by decide +kernel)
theorem isX3 : Cond.instantiable RX3 3 ∈ tbg := tbg_in (List.mem_of_getElem? (i := 126) (by decide +kernel)) (by decide +kernel)
theorem isX4 : Cond.instantiable RX4 2 ∈ tbg := tbg_in (List.mem_of_getElem? (i := 63) (by decide +kernel)) (by decide +kernel)
theorem isX5 : Cond.instantiable RX5 3 ∈ tbg := tbg_in (List.mem_of_getElem? (i := 48) (by decide +kernel)) (by decide +kernel)
theorem isX6 : Cond.instantiable RX6 18 ∈ tbg := tbg_in (List.mem_of_getElem? (i := 467) (by decide +kernel)) (by decide +kernel)
theorem ao0 : Cond.arrayOver (.object "FlowKernel$Slot") ∈ lw_tbl := List.mem_of_getElem? (i := 56) (by decide +kernel)
theorem ao1 : Cond.arrayOver (.object "FlowKernel$Message") ∈ lw_tbl := List.mem_of_getElem? (i := 85) (by decide +kernel)
theorem ao2 : Cond.arrayOver (.object "FlowKernel$StoredFile") ∈ lw_tbl := List.mem_of_getElem? (i := 125) (by decide +kernel)
/-! the data behind the constructors -/
def D0 : DT := fun a k => if a.1 = 8 then (if k = 3 then (-1) else 0) else 0
theorem D0_z {a : AD} (h : a.1 ≠ 8) (k : Nat) : D0 a k = 0 := by simp [D0, h]
theorem D0_zf {a : AD} (h : a.1 ≠ 8) : D0 a = fun _ => 0 := funext (D0_z h)
def cnf : List (Option AV) → Nat → (Nat → Int32) → List AV
  | [], _, _ => []
  | o :: r, k, f => o.getD (rI (f k)) :: cnf r (k + 1) f
theorem fld_cnf (K : EK) : ∀ (fs : List (Option AV)) (k : Nat) (f : Nat → Int32), fld K fs k f = (cnf fs k f).map (tv K)
  | [], _, _ => rfl
  | o :: r, k, f => by
    simp only [fld, cnf, List.map_cons]
    rw [fld_cnf K r (k + 1) f]
    cases o with
    | none => rfl
    | some v => rfl
def cnE (h : SH) (f : Nat → Int32) : CE := match h with
  | .inl o => oB o.1 (cnf o.2 0 f)
  | .inr (.inl t) => zA t.1 t.2
  | .inr (.inr t) => rA t.1 ((List.range t.2.1).map (fun j => some (t.2.2 j)))
def cnA (a : AD) : CE := cnE (sk a) (D0 a)
def deA : DecidableEq (List AV) := fun a b => inferInstance
def deB : DecidableEq (Nat × List AV) := fun a b => @instDecidableEqProd Nat (List AV) inferInstance deA a b
def deE : DecidableEq (List (Option AD)) := fun a b => inferInstance
def deF : DecidableEq (Nat × List (Option AD)) := fun a b => @instDecidableEqProd Nat _ inferInstance deE a b
def deC : DecidableEq ((Nat × Nat) ⊕ (Nat × List (Option AD))) := fun a b => @instDecidableEqSum _ _ inferInstance deF a b
def deD : DecidableEq CE := fun a b => @instDecidableEqSum _ _ deB deC a b
def deL : DecidableEq (List CE) := fun a b => @instDecidableEqList _ deD a b
theorem full_eq : keB ++ moB = allA.map cnA := @of_decide_eq_true _ (deL _ _) (by decide +kernel)
theorem arrV_cg {cA : ClassId} {n : Nat} {f g : Nat → Value} (h : ∀ j, j < n → f j = g j) : arrV cA n f = arrV cA n g := by
  unfold arrV
  have : (Array.ofFn (n := n) fun j => f j.val) = Array.ofFn (n := n) fun j => g j.val := by
    congr 1
    funext j
    exact h j.val j.isLt
  rw [this]
theorem sk8 {i j : Nat} : ∃ o, sk (8, i, j) = .inl o := ⟨_, rfl⟩
theorem HF_HD {K : EK} {H : Heap} (h : HF K (keB ++ moB) H) : HD K D0 H := by
  intro i q hq
  simp only [wl, List.getElem?_map] at hq
  cases ha : allA[i]? with
  | none => rw [ha] at hq; simp at hq
  | some a =>
    rw [ha] at hq
    cases hq
    obtain ⟨h1, h2⟩ := allA_ix ha
    have h3 := h.2 i (cnA a) (by rw [full_eq, List.getElem?_map, ha]; rfl)
    show va_at _ _ (adr K a, te K (sk a) (D0 a)) H
    rw [adr_of h2, h1]
    have h8 : ∀ x, sk a = .inr x → D0 a = fun _ => 0 := by
      intro x hx
      refine D0_zf (fun h8 => ?_)
      obtain ⟨k, i2, j2⟩ := a
      simp only at h8
      subst h8
      cases hx
    unfold cnA at h3
    cases hsk : sk a with
    | inl o =>
      rw [hsk] at h3
      show va_at _ _ (_, .inr (o.1, fld K o.2 0 (D0 a))) _
      rw [fld_cnf]
      exact h3
    | inr x =>
      rw [h8 x hsk]
      rw [hsk, h8 x hsk] at h3
      cases x with
      | inl t => exact h3
      | inr t =>
        show H[ek_o K + i]? = some (vp_cell _ _)
        have h4 : H[ek_o K + i]? = some (vp_cell (ek_c K t.1) (((List.range t.2.1).map (fun j => some (t.2.2 j))).length, .inr (.inr (.inr (.inr (rx K ((List.range t.2.1).map (fun j => some (t.2.2 j)))))))) ) := h3
        rw [h4, vp_cell_q, vp_cell_q, List.length_map, List.length_range]
        congr 1
        refine arrV_cg (fun j hj => ?_)
        simp [rx, List.getD_eq_getElem?_getD, hj]
theorem tg_0 {a : AD} (h : a.1 ≠ 8) (t : Nat) : tg (D0 a) t = false := by
  rw [D0_zf h]
  simp [tg]
theorem bR_0 (n l i j : Nat) : bR D0 D0 n l i j := by
  intro t _
  rw [tg_0 (by simp), D0_z (by simp)]
  rfl
theorem szR_0 (i j mx : Nat) : szR D0 i j mx := by
  have h : cntN (tg (D0 (5, i, j))) 256 = 0 := cntN_0 (fun m _ => tg_0 (by simp) m)
  unfold szR
  rw [h, D0_z (by simp)]
  exact ⟨rfl, Nat.zero_le _⟩
theorem Rel_0 : Rel (0, 0) D0 D0 := by
  refine ⟨?_, ?_, ?_, ?_, ?_, ?_, ?_, ?_, ?_⟩
  · intro s _ p _
    rw [D0_z (by simp), D0_z (by simp)]
  · intro s _
    refine ⟨?_, ?_, ?_, ?_, ?_, 0, Nat.zero_le _, ?_⟩
    · rw [D0_z (by simp), D0_z (by simp)]
    · rw [D0_z (by simp), D0_z (by simp)]
    · rw [D0_z (by simp), D0_z (by simp)]
    · rw [D0_z (by simp), D0_z (by simp)]
    · rw [D0_z (by simp), D0_z (by simp)]
    · rw [D0_z (by simp)]
      rfl
  · exact fun s _ => ⟨bR_0 _ _ _ _, szR_0 _ _ _⟩
  · exact fun s _ q _ => ⟨bR_0 _ _ _ _, szR_0 _ _ _⟩
  · intro n _
    refine ⟨?_, szR_0 _ _ _, fun h => absurd (D0_z (by simp) _) h, fun _ => ⟨fun k _ => D0_z (by simp) _, fun e _ => D0_z (by simp) _⟩, Or.inl (D0_z (by simp) _)⟩
    rw [D0_z (by simp), D0_z (by simp)]
  · intro s _
    refine ⟨0, 0, by decide, by decide, ?_, ?_, ?_, fun k hk => absurd hk (by omega)⟩
    · rw [D0_z (by simp)]
      rfl
    · rw [D0_z (by simp)]
      rfl
    · rw [D0_z (by simp)]
      rfl
  · intro s _
    refine ⟨0, by decide, ?_, ?_, fun e he => absurd he (by omega)⟩
    · rw [D0_z (by simp)]
      rfl
    · rw [D0_z (by simp)]
      rfl
  · refine ⟨?_, ?_⟩
    · rw [D0_z (by simp)]
      rfl
    · rw [D0_z (by simp)]
      rfl
  · exact fun u _ => Or.inl (D0_z (by simp) _)
theorem keB_len : keB.length = 556 := by simp [keB, fm_len slB_len, tsB]
/-! the law's beginning -/
def EL : Nat → List (Option AV) → List AV → List CE → Prop := fun pc ls st G => pc = 18 ∧ ls = [some (rR (16, 0, 0)), some (rR (0, 0, 0)), some (rR (14, 0, 0)), some (rI (nI (6 * 0)))] ∧ st = [] ∧ G = keB ++ moB
theorem law_pre (K : EK) (d : Nat) : RF K mL_law (d + 8) 600000 7302250 0 0 0 [some (rR (16, 0, 0)), none, none, none] [] ([] ++ []) EL := by
  refine RF.new (S' := [oB 5 dfX5]) (0, 0, 0) dL_law_0 nlL_7 (by simp) (k := 0) rfl rfl (by omega) (by omega) rfl ?_
  refine RF.dup dL_law_3 ?_
  refine RF.call0 (S := []) (S2 := keB) dL_law_4 ilL_9 (k := 0) rfl rfl (i_ke K (d + 2)) (Nat.le_of_ble_eq_true rfl) (by omega) (by omega) rfl rfl ?_
  refine RF.astore_n dL_law_7 (by decide) rfl ?_
  refine RF.new (S' := keB ++ [oB 6 dfX6]) (14, 0, 0) dL_law_8 nlL_10 (by simp) (k := 556) keB_len rfl (by omega) (by omega) rfl ?_
  refine RF.dup dL_law_11 ?_
  refine RF.call0 (S := keB) (S2 := keB ++ moB) dL_law_12 ilL_12 (k := 556) keB_len rfl (i_mo K (d + 6)) (Nat.le_of_ble_eq_true rfl) (by omega) (by omega) rfl rfl ?_
  refine RF.astore_n dL_law_15 (by decide) rfl ?_
  refine RF.iconst (v := 0) dL_law_16 rfl ?_
  refine RF.istore_n dL_law_17 (by decide) rfl ?_
  exact RF.stop ⟨rfl, rfl, rfl, rfl⟩ (by omega) (by omega)
