theorem CT.ofF {K : EK} {mt : MT} {d : Nat} {av : List AV} {D : DT} {Q : Option AV → DT → Prop} (hy : plainFor mt.1 = true) (hl : av.length ≤ mt.2.2.1)
    (h : RD K mt d 0 (av.map some ++ List.replicate (mt.2.2.1 - av.length) none) [] D Q) : CT K mt d av D Q := by
  refine va_MetF (cc := mt.2.1) (maxL := mt.2.2.1) (ret := mt.2.2.2) hy rfl ?_
  intro p e s m args below meth c s₁ B hml hv
  obtain ⟨rfl, hH, hK, hN, hX, hb, ho⟩ := hv
  have hts : ∀ w ∈ mws mt, w.before (av.map (tv K)).toArray s = true := atoms_spec (ws := mws mt) B.pre
  have hcat : ∀ (q : List AV), lg_sl (q.map (tv K)) = q.map (fun v => Slot.val (tv K v)) := by
    intro q
    induction q with
    | nil => rfl
    | cons v q ih =>
      rcases v with x | _ | a <;> simp [lg_sl, tv, Value.category] at ih ⊢ <;> exact ih
  have hlen : (lg_sl (av.map (tv K))).length ≤ mt.2.2.1 := by rw [hcat]; simpa using hl
  rw [lg_entry_eq]
  have hent := lv_entry (av.map (tv K)) (n := mt.2.2.1) hlen
  refine h p e (headSpec (mws mt) (rmd d)).room s m _ below meth c s.heap [] 0 0 _ _ ⟨B.exec, B.bytes, hml, findClass_of_methodNamed B.named, fun w hw => hts w (List.mem_cons_of_mem _ hw), hN, hK, hX, hb, ho, Nat.le_refl d, Nat.le_refl (26 * d), Nat.le_refl _, Nat.le_refl _⟩ hH va_S.rf ⟨hent.1, hent.2.1, fun i v hi => ?_⟩ ?_
  · by_cases hi2 : i < av.length
    · rw [List.getElem?_append_left (by simpa using hi2), List.getElem?_map] at hi
      have h1 : av[i]? = some v := by
        cases hq : av[i]? with
        | none => rw [hq] at hi; cases hi
        | some w => rw [hq] at hi; cases hi; rfl
      rw [List.getElem?_toArray, hcat, List.getElem?_append_left (by simpa using hi2), List.getElem?_map, h1]
      rfl
    · rw [List.getElem?_append_right (by simpa using hi2)] at hi
      simp [List.getElem?_replicate] at hi
  · intro r D' H' locs' pc' la' hH' hS' hq hr
    have hq' : ∀ t : State, t.heap = H' → s.WarmedH t.vm → QH K Q (av.map (tv K)).toArray s (.returned (r.map (tv K))) t := fun t ht _ => ⟨⟨r, D', rfl, hq, by rw [ht]; exact hH'⟩, hS'.F ht⟩
    rcases r with _ | v | o
    · exact W.vret B.exec B.bytes (B.returns.trans hr.1) hq' hS'.2.2 hr.2 B.notSynchronized
    · obtain ⟨⟨ty, h1, h2⟩, h3⟩ := hr
      exact W.zret B.exec B.bytes (B.returns.trans h1) h2 hq' hS'.2.2 h3 B.notSynchronized
    · obtain ⟨⟨n, h1⟩, h3⟩ := hr
      refine W.aret (v := tv K (.inr o)) B.exec B.bytes (B.returns.trans h1) (Or.inl ⟨n, rfl⟩) ?_ hq' hS'.2.2 h3 B.notSynchronized
      cases o with
      | none => exact Or.inl rfl
      | some a => exact Or.inr ⟨_, rfl⟩

/-- the first n cells of slot t's memory are those of slot i's from b on -/
def mcp (D : DT) (t i b n : Nat) : DT := fun a => if a = (3, t, 0) then (fun k => if k < n then D (3, i, 0) (b + k) else D (3, t, 0) k) else D a
theorem mcp_0 (D : DT) (t i b : Nat) : mcp D t i b 0 = D := by
  funext x
  by_cases h : x = (3, t, 0)
  · subst h; simp [mcp]
  · simp [mcp, h]
theorem mcp_s (D : DT) (t i b n : Nat) : up (mcp D t i b n) (3, t, 0) n (D (3, i, 0) (b + n)) = mcp D t i b (n + 1) := by
  funext x k
  rw [up_at]
  by_cases h : x = (3, t, 0)
  · subst h
    by_cases h2 : k = n
    · subst h2; simp [mcp]
    · simp only [mcp, h2, and_false, if_false, if_true]
      by_cases h3 : k < n
      · simp [h3, show k < n + 1 by omega]
      · simp [h3, show ¬ k < n + 1 by omega]
  · simp [mcp, h]
theorem mcp_o {D : DT} {t i b n : Nat} {a : AD} (h : a ≠ (3, t, 0)) : mcp D t i b n a = D a := by rw [mcp, if_neg h]
def spOK (D : DT) (i : Nat) (a b n : Int32) : Prop := ∃ t w e, 1 ≤ t ∧ t < 8 ∧ (t - 1) / 2 = i ∧ a = nI t ∧ n = nI w ∧ 1 ≤ w ∧ w ≤ 128 ∧ b = nI e ∧ e + w ≤ 128 ∧ D (2, t, 0) 4 = 0 ∧ subB (D (5, t, 0)) (D (5, i, 0)) = true
theorem half {t : Nat} (h1 : 1 ≤ t) (h : t < 8) : (nI t - 1) / 2 = nI ((t - 1) / 2) := by
  obtain ⟨q, rfl⟩ : ∃ q, t = q + 1 := ⟨t - 1, by omega⟩
  rw [nI_pred, Nat.add_sub_cancel]
  exact pk_div (d := 2) (by omega) (by decide) (by decide)
def spF (D : DT) (i t e w : Nat) : DT := up (cpyF (mcp D t i e w) t 0 i 0) (2, t, 0) 4 1

set_option maxRecDepth 20000 in
set_option maxHeartbeats 2000000 in
theorem l_spawn (K : EK) (d : Nat) {i : Nat} (hi : i < 8) (D : DT) {t w e : Nat} (ht : t < 8) (hti : t ≠ i) (hw : w ≤ 128) (hew : e + w ≤ 128) : ∀ n k, k ≤ w → w + 1 ≤ k + n → RD K mX5_spawn (d + 2) 91 [some (rR (0, 0, 0)), some (rR (2, i, 0)), some (rI (nI t)), some (rI (nI e)), some (rI (nI w)), some (rR (2, t, 0)), some (rI (nI k))] [] (mcp D t i e k) (fun r0 D0 => r0 = some (rI 1) ∧ D0 = spF D i t e w) := by
  intro n
  induction n with
  | zero => intro k h1 h2; omega
  | succ n ih =>
    intro k hkw hn
    refine RD.iload (pc := 91) dX5_spawn_91 rfl ?_
    refine RD.iload (pc := 93) dX5_spawn_93 rfl ?_
    refine RD.icmp_ge (pc := 95) 121 dX5_spawn_95 (by decide) (fun c95 => ?_) (fun c95 => ?_)
    · have hkw8 : k = w := by
        have := (nI_leI (a := w) (b := k) (by omega) (by omega)).mp c95
        omega
      subst hkw8
      refine RD.aload (pc := 121) dX5_spawn_121 rfl ?_
      refine RD.getR (pc := 123) dX5_spawn_123 flX5_46 (ok2 ht) rfl rfl ?_
      refine RD.aload_n (pc := 126) dX5_spawn_126 rfl ?_
      refine RD.getR (pc := 127) dX5_spawn_127 flX5_46 (ok2 hi) rfl rfl ?_
      refine RD.cV1v (pc := 130) dX5_spawn_130 mlX5_229 rfl (ok4 ht (by decide)) rfl (c_copy K _ (ok4 ht (by decide)) (ok4 hi (by decide)) (mcp D t i e k)) (leb rfl) ?_
      refine RD.aload (pc := 133) dX5_spawn_133 rfl ?_
      refine RD.iconst (pc := 135) (v := 1) dX5_spawn_135 (by decide) ?_
      refine RD.putf (pc := 136) dX5_spawn_136 fpX5_37 (ok2 ht) rfl rfl rfl rfl ?_
      refine RD.iconst (pc := 139) (v := 1) dX5_spawn_139 (by decide) ?_
      refine RD.ireturn (pc := 140) dX5_spawn_140 rfl rfl ?_
      exact ⟨rfl, rfl⟩
    · have hkw8 : k < w := Nat.lt_of_not_le (fun h => c95 (nI_le h (by omega)))
      refine RD.aload (pc := 98) dX5_spawn_98 rfl ?_
      refine RD.getR (pc := 100) dX5_spawn_100 flX5_33 (ok2 ht) rfl rfl ?_
      refine RD.iload (pc := 103) dX5_spawn_103 rfl ?_
      refine RD.aload_n (pc := 105) dX5_spawn_105 rfl ?_
      refine RD.getR (pc := 106) dX5_spawn_106 flX5_33 (ok2 hi) rfl rfl ?_
      refine RD.iload_n (pc := 109) dX5_spawn_109 rfl ?_
      refine RD.iload (pc := 110) dX5_spawn_110 rfl ?_
      refine RD.iadd (pc := 112) dX5_spawn_112 ?_
      refine RD.iL (pc := 113) (n := 128) (e + k) (v := D (3, i, 0) (e + k)) (congrFun (mcp_o (by simp [Ne.symm hti])) _) dX5_spawn_113 (ok3 hi) rfl (nI_add e k) (by omega) (by decide) ?_
      refine RD.iast (pc := 114) (n := 128) k dX5_spawn_114 (ok3 ht) rfl rfl (by omega) (by decide) ?_
      refine RD.iinc (pc := 115) (ls' := [some (rR (0, 0, 0)), some (rR (2, i, 0)), some (rI (nI t)), some (rI (nI e)), some (rI (nI w)), some (rR (2, t, 0)), some (rI (nI (k + 1)))]) dX5_spawn_115 rfl (nI_1 k) (by decide) rfl ?_
      refine RD.goto (pc := 118) 91 dX5_spawn_118 (by decide) ?_
      rw [mcp_s]
      exact ih (k + 1) (by omega) (by omega)

set_option maxRecDepth 20000 in
set_option maxHeartbeats 1000000 in
theorem c_spawn1 (K : EK) (d : Nat) {i : Nat} (hi : i < 8) (D : DT) {t w e : Nat} (ht : t < 8) (hti : t ≠ i) (hw : w ≤ 128) (hew : e + w ≤ 128) (h1t : 1 ≤ t) (hpar : (t - 1) / 2 = i) (h1w : 1 ≤ w) (hst : D (2, t, 0) 4 = 0) (hsub : subB (D (5, t, 0)) (D (5, i, 0)) = true) : CF K mX5_spawn (d + 2) [rR (0, 0, 0), rR (2, i, 0), rI (nI t), rI (nI e), rI (nI w)] D (some (rI 1)) (spF D i t e w) := by
  refine CF.of [some (rR (0, 0, 0)), some (rR (2, i, 0)), some (rI (nI t)), some (rI (nI e)), some (rI (nI w)), none, none] (by decide) (leb rfl) rfl ?_
  refine RD.iload_n (pc := 0) dX5_spawn_0 rfl ?_
  refine RD.cS1 (pc := 1) dX5_spawn_1 mlX5_29 (c_isSlot K _ D (nI t)) (leb rfl) ?_
  refine RD.if_eq (pc := 4) 23 dX5_spawn_4 (by decide) (fun c4 => absurd c4 (bIin (by decide) ht)) (fun c4 => ?_)
  refine RD.iload_n (pc := 7) dX5_spawn_7 rfl ?_
  refine RD.if_eq (pc := 8) 23 dX5_spawn_8 (by decide) (fun c8 => absurd c8 (nI_ne0 (by omega) (by omega))) (fun c8 => ?_)
  refine RD.iload_n (pc := 11) dX5_spawn_11 rfl ?_
  refine RD.iconst (pc := 12) (v := 1) dX5_spawn_12 (by decide) ?_
  refine RD.isub (pc := 13) dX5_spawn_13 ?_
  refine RD.iconst (pc := 14) (v := 2) dX5_spawn_14 (by decide) ?_
  refine RD.idiv (pc := 15) dX5_spawn_15 (by decide) ?_
  refine RD.aload_n (pc := 16) dX5_spawn_16 rfl ?_
  refine RD.getR (pc := 17) dX5_spawn_17 flX5_226 (ok2 hi) rfl rfl ?_
  refine RD.icmp_eq (pc := 20) 25 dX5_spawn_20 (by decide) (fun c20 => ?_) (fun c20 => absurd (by rw [half h1t ht, hpar]) c20)
  refine RD.iload (pc := 25) dX5_spawn_25 rfl ?_
  refine RD.iconst (pc := 27) (v := 1) dX5_spawn_27 (by decide) ?_
  refine RD.icmp_lt (pc := 28) 53 dX5_spawn_28 (by decide) (fun c28 => absurd c28 (nI_nlt (a := w) (b := 1) h1w (by omega))) (fun c28 => ?_)
  refine RD.iload (pc := 31) dX5_spawn_31 rfl ?_
  refine RD.sipush (pc := 33) (v := 128) dX5_spawn_33 (by decide) ?_
  refine RD.icmp_gt (pc := 36) 53 dX5_spawn_36 (by decide) (fun c36 => absurd c36 (nI_nlt (a := 128) (b := w) hw (by decide))) (fun c36 => ?_)
  refine RD.iload_n (pc := 39) dX5_spawn_39 rfl ?_
  refine RD.if_lt (pc := 40) 53 dX5_spawn_40 (by decide) (fun c40 => absurd c40 (nI_pos (by omega))) (fun c40 => ?_)
  refine RD.iload_n (pc := 43) dX5_spawn_43 rfl ?_
  refine RD.sipush (pc := 44) (v := 128) dX5_spawn_44 (by decide) ?_
  refine RD.iload (pc := 47) dX5_spawn_47 rfl ?_
  refine RD.isub (pc := 49) dX5_spawn_49 ?_
  refine RD.icmp_le (pc := 50) 55 dX5_spawn_50 (by decide) (fun c50 => ?_) (fun c50 => absurd (by rw [show (128 : Int32) = nI 128 from rfl, pk_sub hw]; exact nI_le (by omega) (by omega)) c50)
  refine RD.aload_n (pc := 55) dX5_spawn_55 rfl ?_
  refine RD.getR (pc := 56) dX5_spawn_56 flX5_11 ok0 rfl rfl ?_
  refine RD.iload_n (pc := 59) dX5_spawn_59 rfl ?_
  refine RD.aald (pc := 60) t dX5_spawn_60 ok1 rfl rfl rfl ht (by decide) ?_
  refine RD.astore (pc := 61) (ls' := [some (rR (0, 0, 0)), some (rR (2, i, 0)), some (rI (nI t)), some (rI (nI e)), some (rI (nI w)), some (rR (2, t, 0)), none]) dX5_spawn_61 (by decide) rfl ?_
  refine RD.aload (pc := 63) dX5_spawn_63 rfl ?_
  refine RD.gI (pc := 65) (v := D (2, t, 0) 4) rfl dX5_spawn_65 flX5_37 (ok2 ht) rfl rfl ?_
  refine RD.if_ne (pc := 68) 86 dX5_spawn_68 (by decide) (fun c68 => absurd hst c68) (fun c68 => ?_)
  refine RD.aload (pc := 71) dX5_spawn_71 rfl ?_
  refine RD.getR (pc := 73) dX5_spawn_73 flX5_46 (ok2 ht) rfl rfl ?_
  refine RD.aload_n (pc := 76) dX5_spawn_76 rfl ?_
  refine RD.getR (pc := 77) dX5_spawn_77 flX5_46 (ok2 hi) rfl rfl ?_
  refine RD.cV1 (pc := 80) dX5_spawn_80 mlX5_140 rfl (ok4 ht (by decide)) rfl (c_isIn K _ (ok4 ht (by decide)) (ok4 hi (by decide)) D) (leb rfl) ?_
  refine RD.if_ne (pc := 83) 88 dX5_spawn_83 (by decide) (fun c83 => ?_) (fun c83 => absurd c83 (by rw [hsub]; decide))
  refine RD.iconst (pc := 88) (v := 0) dX5_spawn_88 (by decide) ?_
  refine RD.istore (pc := 89) (ls' := [some (rR (0, 0, 0)), some (rR (2, i, 0)), some (rI (nI t)), some (rI (nI e)), some (rI (nI w)), some (rR (2, t, 0)), some (rI 0)]) dX5_spawn_89 (by decide) rfl ?_
  have h := l_spawn K d hi D ht hti hw hew (w + 1) 0 (by omega) (by omega)
  rw [mcp_0] at h
  exact h

set_option maxRecDepth 20000 in
set_option maxHeartbeats 1000000 in
theorem c_spawn0 (K : EK) (d : Nat) {i : Nat} (hi : i < 8) (D : DT) (a b n : Int32) (h : ¬ spOK D i a b n) : CF K mX5_spawn (d + 2) [rR (0, 0, 0), rR (2, i, 0), rI a, rI b, rI n] D (some (rI 0)) D := by
  refine CF.of [some (rR (0, 0, 0)), some (rR (2, i, 0)), some (rI a), some (rI b), some (rI n), none, none] (by decide) (leb rfl) rfl ?_
  refine RD.iload_n (pc := 0) dX5_spawn_0 rfl ?_
  refine RD.cS1 (pc := 1) dX5_spawn_1 mlX5_29 (c_isSlot K _ D a) (leb rfl) ?_
  refine RD.if_eq (pc := 4) 23 dX5_spawn_4 (by decide) (fun c4 => ?_) (fun c4 => ?_)
  · refine RD.iconst (pc := 23) (v := 0) dX5_spawn_23 (by decide) ?_
    refine RD.ireturn (pc := 24) dX5_spawn_24 rfl rfl ?_
    exact ⟨rfl, rfl⟩
  · refine RD.iload_n (pc := 7) dX5_spawn_7 rfl ?_
    refine RD.if_eq (pc := 8) 23 dX5_spawn_8 (by decide) (fun c8 => ?_) (fun c8 => ?_)
    · refine RD.iconst (pc := 23) (v := 0) dX5_spawn_23 (by decide) ?_
      refine RD.ireturn (pc := 24) dX5_spawn_24 rfl rfl ?_
      exact ⟨rfl, rfl⟩
    · refine RD.iload_n (pc := 11) dX5_spawn_11 rfl ?_
      refine RD.iconst (pc := 12) (v := 1) dX5_spawn_12 (by decide) ?_
      refine RD.isub (pc := 13) dX5_spawn_13 ?_
      refine RD.iconst (pc := 14) (v := 2) dX5_spawn_14 (by decide) ?_
      refine RD.idiv (pc := 15) dX5_spawn_15 (by decide) ?_
      refine RD.aload_n (pc := 16) dX5_spawn_16 rfl ?_
      refine RD.getR (pc := 17) dX5_spawn_17 flX5_226 (ok2 hi) rfl rfl ?_
      refine RD.icmp_eq (pc := 20) 25 dX5_spawn_20 (by decide) (fun c20 => ?_) (fun c20 => ?_)
      · refine RD.iload (pc := 25) dX5_spawn_25 rfl ?_
        refine RD.iconst (pc := 27) (v := 1) dX5_spawn_27 (by decide) ?_
        refine RD.icmp_lt (pc := 28) 53 dX5_spawn_28 (by decide) (fun c28 => ?_) (fun c28 => ?_)
        · refine RD.iconst (pc := 53) (v := 0) dX5_spawn_53 (by decide) ?_
          refine RD.ireturn (pc := 54) dX5_spawn_54 rfl rfl ?_
          exact ⟨rfl, rfl⟩
        · refine RD.iload (pc := 31) dX5_spawn_31 rfl ?_
          refine RD.sipush (pc := 33) (v := 128) dX5_spawn_33 (by decide) ?_
          refine RD.icmp_gt (pc := 36) 53 dX5_spawn_36 (by decide) (fun c36 => ?_) (fun c36 => ?_)
          · refine RD.iconst (pc := 53) (v := 0) dX5_spawn_53 (by decide) ?_
            refine RD.ireturn (pc := 54) dX5_spawn_54 rfl rfl ?_
            exact ⟨rfl, rfl⟩
          · refine RD.iload_n (pc := 39) dX5_spawn_39 rfl ?_
            refine RD.if_lt (pc := 40) 53 dX5_spawn_40 (by decide) (fun c40 => ?_) (fun c40 => ?_)
            · refine RD.iconst (pc := 53) (v := 0) dX5_spawn_53 (by decide) ?_
              refine RD.ireturn (pc := 54) dX5_spawn_54 rfl rfl ?_
              exact ⟨rfl, rfl⟩
            · refine RD.iload_n (pc := 43) dX5_spawn_43 rfl ?_
              refine RD.sipush (pc := 44) (v := 128) dX5_spawn_44 (by decide) ?_
              refine RD.iload (pc := 47) dX5_spawn_47 rfl ?_
              refine RD.isub (pc := 49) dX5_spawn_49 ?_
              refine RD.icmp_le (pc := 50) 55 dX5_spawn_50 (by decide) (fun c50 => ?_) (fun c50 => ?_)
              · obtain ⟨t, ht, rfl⟩ := inR_t (N := 8) (by decide) (bI_1 c4)
                refine RD.aload_n (pc := 55) dX5_spawn_55 rfl ?_
                refine RD.getR (pc := 56) dX5_spawn_56 flX5_11 ok0 rfl rfl ?_
                refine RD.iload_n (pc := 59) dX5_spawn_59 rfl ?_
                refine RD.aald (pc := 60) t dX5_spawn_60 ok1 rfl rfl rfl ht (by decide) ?_
                refine RD.astore (pc := 61) (ls' := [some (rR (0, 0, 0)), some (rR (2, i, 0)), some (rI (nI t)), some (rI b), some (rI n), some (rR (2, t, 0)), none]) dX5_spawn_61 (by decide) rfl ?_
                refine RD.aload (pc := 63) dX5_spawn_63 rfl ?_
                refine RD.gI (pc := 65) (v := D (2, t, 0) 4) rfl dX5_spawn_65 flX5_37 (ok2 ht) rfl rfl ?_
                refine RD.if_ne (pc := 68) 86 dX5_spawn_68 (by decide) (fun c68 => ?_) (fun c68 => ?_)
                · refine RD.iconst (pc := 86) (v := 0) dX5_spawn_86 (by decide) ?_
                  refine RD.ireturn (pc := 87) dX5_spawn_87 rfl rfl ?_
                  exact ⟨rfl, rfl⟩
                · refine RD.aload (pc := 71) dX5_spawn_71 rfl ?_
                  refine RD.getR (pc := 73) dX5_spawn_73 flX5_46 (ok2 ht) rfl rfl ?_
                  refine RD.aload_n (pc := 76) dX5_spawn_76 rfl ?_
                  refine RD.getR (pc := 77) dX5_spawn_77 flX5_46 (ok2 hi) rfl rfl ?_
                  refine RD.cV1 (pc := 80) dX5_spawn_80 mlX5_140 rfl (ok4 ht (by decide)) rfl (c_isIn K _ (ok4 ht (by decide)) (ok4 hi (by decide)) D) (leb rfl) ?_
                  refine RD.if_ne (pc := 83) 88 dX5_spawn_83 (by decide) (fun c83 => ?_) (fun c83 => ?_)
                  · exfalso
                    have h1t : 1 ≤ t := Nat.pos_of_ne_zero (fun e => c8 (by rw [e]; rfl))
                    rw [half h1t ht] at c20
                    have hpar : (t - 1) / 2 = i := (nI_eq (by omega) (by omega)).mp c20
                    obtain ⟨w, hw, rfl⟩ := nI_of2 (nI_toInt (n := 128) (by decide)) (fun hn => c28 (Int32.lt_trans hn (by decide))) (i32_nlt c36)
                    have h1w : 1 ≤ w := by
                      rcases Nat.eq_zero_or_pos w with e | e
                      · exact absurd (by rw [e]; decide) c28
                      · exact e
                    obtain ⟨e, he, rfl⟩ := nI_of (x := b) c40
                    rw [show (128 : Int32) = nI 128 from rfl, pk_sub hw] at c50
                    have hew := (nI_leI he (by omega)).mp c50
                    exact h ⟨t, w, e, h1t, ht, hpar, rfl, rfl, h1w, hw, rfl, by omega, c68, bI_1 c83⟩
                  · refine RD.iconst (pc := 86) (v := 0) dX5_spawn_86 (by decide) ?_
                    refine RD.ireturn (pc := 87) dX5_spawn_87 rfl rfl ?_
                    exact ⟨rfl, rfl⟩
              · refine RD.iconst (pc := 53) (v := 0) dX5_spawn_53 (by decide) ?_
                refine RD.ireturn (pc := 54) dX5_spawn_54 rfl rfl ?_
                exact ⟨rfl, rfl⟩
      · refine RD.iconst (pc := 23) (v := 0) dX5_spawn_23 (by decide) ?_
        refine RD.ireturn (pc := 24) dX5_spawn_24 rfl rfl ?_
        exact ⟨rfl, rfl⟩

set_option maxRecDepth 20000 in
set_option maxHeartbeats 1000000 in
theorem c_sys0 (K : EK) (d : Nat) {i : Nat} (hi : i < 8) (D : DT) {r : Int32} {D2 : DT} (hc : CF K mX2_newTag d [rR (2, i, 0)] D (some (rI r)) D2) : CF K mX5_systemCall (d + 1) [rR (0, 0, 0), rR (2, i, 0), rI 0] D (none) (up D2 (2, i, 0) 2 r) := by
  refine CF.of [some (rR (0, 0, 0)), some (rR (2, i, 0)), some (rI 0), none, none, none] (by decide) (leb rfl) rfl ?_
  refine RD.aload_n (pc := 0) dX5_systemCall_0 rfl ?_
  refine RD.getR (pc := 1) dX5_systemCall_1 flX5_33 (ok2 hi) rfl rfl ?_
  refine RD.bipush (pc := 4) (v := 120) dX5_systemCall_4 (by decide) ?_
  refine RD.iL (pc := 6) (n := 128) 120 (v := D (3, i, 0) 120) rfl dX5_systemCall_6 (ok3 hi) rfl rfl (by decide) (by decide) ?_
  refine RD.istore_n (pc := 7) (ls' := [some (rR (0, 0, 0)), some (rR (2, i, 0)), some (rI 0), some (rI (D (3, i, 0) 120)), none, none]) dX5_systemCall_7 (by decide) rfl ?_
  refine RD.aload_n (pc := 8) dX5_systemCall_8 rfl ?_
  refine RD.getR (pc := 9) dX5_systemCall_9 flX5_33 (ok2 hi) rfl rfl ?_
  refine RD.bipush (pc := 12) (v := 121) dX5_systemCall_12 (by decide) ?_
  refine RD.iL (pc := 14) (n := 128) 121 (v := D (3, i, 0) 121) rfl dX5_systemCall_14 (ok3 hi) rfl rfl (by decide) (by decide) ?_
  refine RD.istore (pc := 15) (ls' := [some (rR (0, 0, 0)), some (rR (2, i, 0)), some (rI 0), some (rI (D (3, i, 0) 120)), some (rI (D (3, i, 0) 121)), none]) dX5_systemCall_15 (by decide) rfl ?_
  refine RD.aload_n (pc := 17) dX5_systemCall_17 rfl ?_
  refine RD.getR (pc := 18) dX5_systemCall_18 flX5_33 (ok2 hi) rfl rfl ?_
  refine RD.bipush (pc := 21) (v := 122) dX5_systemCall_21 (by decide) ?_
  refine RD.iL (pc := 23) (n := 128) 122 (v := D (3, i, 0) 122) rfl dX5_systemCall_23 (ok3 hi) rfl rfl (by decide) (by decide) ?_
  refine RD.istore (pc := 24) (ls' := [some (rR (0, 0, 0)), some (rR (2, i, 0)), some (rI 0), some (rI (D (3, i, 0) 120)), some (rI (D (3, i, 0) 121)), some (rI (D (3, i, 0) 122))]) dX5_systemCall_24 (by decide) rfl ?_
  refine RD.iload_n (pc := 26) dX5_systemCall_26 rfl ?_
  refine RD.iconst (pc := 27) (v := 1) dX5_systemCall_27 (by decide) ?_
  refine RD.icmp_eq (pc := 28) 37 dX5_systemCall_28 (by decide) (fun c28 => absurd c28 (by decide)) (fun c28 => ?_)
  refine RD.iload_n (pc := 31) dX5_systemCall_31 rfl ?_
  refine RD.bipush (pc := 32) (v := 6) dX5_systemCall_32 (by decide) ?_
  refine RD.icmp_ne (pc := 34) 52 dX5_systemCall_34 (by decide) (fun c34 => ?_) (fun c34 => absurd c34 (by decide))
  refine RD.iload_n (pc := 52) dX5_systemCall_52 rfl ?_
  refine RD.tableIn (pc := 53) 116 dX5_systemCall_53 (by decide) (by decide) rfl (by decide) ?_
  refine RD.aload_n (pc := 116) dX5_systemCall_116 rfl ?_
  refine RD.aload_n (pc := 117) dX5_systemCall_117 rfl ?_
  refine RD.cV0 (pc := 118) dX5_systemCall_118 mlX5_178 rfl (ok2 hi) rfl hc (leb rfl) ?_
  refine RD.putf (pc := 121) dX5_systemCall_121 fpX5_108 (ok2 hi) rfl rfl rfl rfl ?_
  refine RD.goto (pc := 124) 295 dX5_systemCall_124 (by decide) ?_
  refine RD.ret (pc := 295) ⟨rfl, dX5_systemCall_295⟩ ?_
  exact ⟨rfl, rfl⟩

set_option maxRecDepth 20000 in
set_option maxHeartbeats 1000000 in
theorem c_sys2 (K : EK) (d : Nat) {i : Nat} (hi : i < 8) (D : DT) {r : Int32} {D2 : DT} (hc : CF K mX2_dropCapability d [rR (2, i, 0), rI (D (3, i, 0) 121), rI (D (3, i, 0) 120)] D (some (rI r)) D2) : CF K mX5_systemCall (d + 1) [rR (0, 0, 0), rR (2, i, 0), rI 2] D (none) (up D2 (2, i, 0) 2 r) := by
  refine CF.of [some (rR (0, 0, 0)), some (rR (2, i, 0)), some (rI 2), none, none, none] (by decide) (leb rfl) rfl ?_
  refine RD.aload_n (pc := 0) dX5_systemCall_0 rfl ?_
  refine RD.getR (pc := 1) dX5_systemCall_1 flX5_33 (ok2 hi) rfl rfl ?_
  refine RD.bipush (pc := 4) (v := 120) dX5_systemCall_4 (by decide) ?_
  refine RD.iL (pc := 6) (n := 128) 120 (v := D (3, i, 0) 120) rfl dX5_systemCall_6 (ok3 hi) rfl rfl (by decide) (by decide) ?_
  refine RD.istore_n (pc := 7) (ls' := [some (rR (0, 0, 0)), some (rR (2, i, 0)), some (rI 2), some (rI (D (3, i, 0) 120)), none, none]) dX5_systemCall_7 (by decide) rfl ?_
  refine RD.aload_n (pc := 8) dX5_systemCall_8 rfl ?_
  refine RD.getR (pc := 9) dX5_systemCall_9 flX5_33 (ok2 hi) rfl rfl ?_
  refine RD.bipush (pc := 12) (v := 121) dX5_systemCall_12 (by decide) ?_
  refine RD.iL (pc := 14) (n := 128) 121 (v := D (3, i, 0) 121) rfl dX5_systemCall_14 (ok3 hi) rfl rfl (by decide) (by decide) ?_
  refine RD.istore (pc := 15) (ls' := [some (rR (0, 0, 0)), some (rR (2, i, 0)), some (rI 2), some (rI (D (3, i, 0) 120)), some (rI (D (3, i, 0) 121)), none]) dX5_systemCall_15 (by decide) rfl ?_
  refine RD.aload_n (pc := 17) dX5_systemCall_17 rfl ?_
  refine RD.getR (pc := 18) dX5_systemCall_18 flX5_33 (ok2 hi) rfl rfl ?_
  refine RD.bipush (pc := 21) (v := 122) dX5_systemCall_21 (by decide) ?_
  refine RD.iL (pc := 23) (n := 128) 122 (v := D (3, i, 0) 122) rfl dX5_systemCall_23 (ok3 hi) rfl rfl (by decide) (by decide) ?_
  refine RD.istore (pc := 24) (ls' := [some (rR (0, 0, 0)), some (rR (2, i, 0)), some (rI 2), some (rI (D (3, i, 0) 120)), some (rI (D (3, i, 0) 121)), some (rI (D (3, i, 0) 122))]) dX5_systemCall_24 (by decide) rfl ?_
  refine RD.iload_n (pc := 26) dX5_systemCall_26 rfl ?_
  refine RD.iconst (pc := 27) (v := 1) dX5_systemCall_27 (by decide) ?_
  refine RD.icmp_eq (pc := 28) 37 dX5_systemCall_28 (by decide) (fun c28 => absurd c28 (by decide)) (fun c28 => ?_)
  refine RD.iload_n (pc := 31) dX5_systemCall_31 rfl ?_
  refine RD.bipush (pc := 32) (v := 6) dX5_systemCall_32 (by decide) ?_
  refine RD.icmp_ne (pc := 34) 52 dX5_systemCall_34 (by decide) (fun c34 => ?_) (fun c34 => absurd c34 (by decide))
  refine RD.iload_n (pc := 52) dX5_systemCall_52 rfl ?_
  refine RD.tableIn (pc := 53) 142 dX5_systemCall_53 (by decide) (by decide) rfl (by decide) ?_
  refine RD.aload_n (pc := 142) dX5_systemCall_142 rfl ?_
  refine RD.aload_n (pc := 143) dX5_systemCall_143 rfl ?_
  refine RD.iload (pc := 144) dX5_systemCall_144 rfl ?_
  refine RD.iload_n (pc := 146) dX5_systemCall_146 rfl ?_
  refine RD.cV2 (pc := 147) dX5_systemCall_147 mlX5_185 rfl (ok2 hi) rfl hc (leb rfl) ?_
  refine RD.putf (pc := 150) dX5_systemCall_150 fpX5_108 (ok2 hi) rfl rfl rfl rfl ?_
  refine RD.goto (pc := 153) 295 dX5_systemCall_153 (by decide) ?_
  refine RD.ret (pc := 295) ⟨rfl, dX5_systemCall_295⟩ ?_
  exact ⟨rfl, rfl⟩

set_option maxRecDepth 20000 in
set_option maxHeartbeats 1000000 in
theorem c_sys3 (K : EK) (d : Nat) {i : Nat} (hi : i < 8) (D : DT) {r : Int32} {D2 : DT} (hc : CF K mX5_send d [rR (0, 0, 0), rR (2, i, 0), rI (D (3, i, 0) 120), rI (D (3, i, 0) 121), rI (-1)] D (some (rI r)) D2) : CF K mX5_systemCall (d + 1) [rR (0, 0, 0), rR (2, i, 0), rI 3] D (none) (up D2 (2, i, 0) 2 r) := by
  refine CF.of [some (rR (0, 0, 0)), some (rR (2, i, 0)), some (rI 3), none, none, none] (by decide) (leb rfl) rfl ?_
  refine RD.aload_n (pc := 0) dX5_systemCall_0 rfl ?_
  refine RD.getR (pc := 1) dX5_systemCall_1 flX5_33 (ok2 hi) rfl rfl ?_
  refine RD.bipush (pc := 4) (v := 120) dX5_systemCall_4 (by decide) ?_
  refine RD.iL (pc := 6) (n := 128) 120 (v := D (3, i, 0) 120) rfl dX5_systemCall_6 (ok3 hi) rfl rfl (by decide) (by decide) ?_
  refine RD.istore_n (pc := 7) (ls' := [some (rR (0, 0, 0)), some (rR (2, i, 0)), some (rI 3), some (rI (D (3, i, 0) 120)), none, none]) dX5_systemCall_7 (by decide) rfl ?_
  refine RD.aload_n (pc := 8) dX5_systemCall_8 rfl ?_
  refine RD.getR (pc := 9) dX5_systemCall_9 flX5_33 (ok2 hi) rfl rfl ?_
  refine RD.bipush (pc := 12) (v := 121) dX5_systemCall_12 (by decide) ?_
  refine RD.iL (pc := 14) (n := 128) 121 (v := D (3, i, 0) 121) rfl dX5_systemCall_14 (ok3 hi) rfl rfl (by decide) (by decide) ?_
  refine RD.istore (pc := 15) (ls' := [some (rR (0, 0, 0)), some (rR (2, i, 0)), some (rI 3), some (rI (D (3, i, 0) 120)), some (rI (D (3, i, 0) 121)), none]) dX5_systemCall_15 (by decide) rfl ?_
  refine RD.aload_n (pc := 17) dX5_systemCall_17 rfl ?_
  refine RD.getR (pc := 18) dX5_systemCall_18 flX5_33 (ok2 hi) rfl rfl ?_
  refine RD.bipush (pc := 21) (v := 122) dX5_systemCall_21 (by decide) ?_
  refine RD.iL (pc := 23) (n := 128) 122 (v := D (3, i, 0) 122) rfl dX5_systemCall_23 (ok3 hi) rfl rfl (by decide) (by decide) ?_
  refine RD.istore (pc := 24) (ls' := [some (rR (0, 0, 0)), some (rR (2, i, 0)), some (rI 3), some (rI (D (3, i, 0) 120)), some (rI (D (3, i, 0) 121)), some (rI (D (3, i, 0) 122))]) dX5_systemCall_24 (by decide) rfl ?_
  refine RD.iload_n (pc := 26) dX5_systemCall_26 rfl ?_
  refine RD.iconst (pc := 27) (v := 1) dX5_systemCall_27 (by decide) ?_
  refine RD.icmp_eq (pc := 28) 37 dX5_systemCall_28 (by decide) (fun c28 => absurd c28 (by decide)) (fun c28 => ?_)
  refine RD.iload_n (pc := 31) dX5_systemCall_31 rfl ?_
  refine RD.bipush (pc := 32) (v := 6) dX5_systemCall_32 (by decide) ?_
  refine RD.icmp_ne (pc := 34) 52 dX5_systemCall_34 (by decide) (fun c34 => ?_) (fun c34 => absurd c34 (by decide))
  refine RD.iload_n (pc := 52) dX5_systemCall_52 rfl ?_
  refine RD.tableIn (pc := 53) 156 dX5_systemCall_53 (by decide) (by decide) rfl (by decide) ?_
  refine RD.aload_n (pc := 156) dX5_systemCall_156 rfl ?_
  refine RD.aload_n (pc := 157) dX5_systemCall_157 rfl ?_
  refine RD.aload_n (pc := 158) dX5_systemCall_158 rfl ?_
  refine RD.iload_n (pc := 159) dX5_systemCall_159 rfl ?_
  refine RD.iload (pc := 160) dX5_systemCall_160 rfl ?_
  refine RD.iconst (pc := 162) (v := (-1)) dX5_systemCall_162 (by decide) ?_
  refine RD.cV4 (pc := 163) dX5_systemCall_163 mlX5_188 rfl ok0 rfl hc (leb rfl) ?_
  refine RD.putf (pc := 166) dX5_systemCall_166 fpX5_108 (ok2 hi) rfl rfl rfl rfl ?_
  refine RD.goto (pc := 169) 295 dX5_systemCall_169 (by decide) ?_
  refine RD.ret (pc := 295) ⟨rfl, dX5_systemCall_295⟩ ?_
  exact ⟨rfl, rfl⟩

set_option maxRecDepth 20000 in
set_option maxHeartbeats 1000000 in
theorem c_sys4 (K : EK) (d : Nat) {i : Nat} (hi : i < 8) (D : DT) {r : Int32} {D2 : DT} (hc : CF K mX5_pass d [rR (0, 0, 0), rR (2, i, 0), rI (D (3, i, 0) 120), rI (D (3, i, 0) 121), rI (D (3, i, 0) 122)] D (some (rI r)) D2) : CF K mX5_systemCall (d + 1) [rR (0, 0, 0), rR (2, i, 0), rI 4] D (none) (up D2 (2, i, 0) 2 r) := by
  refine CF.of [some (rR (0, 0, 0)), some (rR (2, i, 0)), some (rI 4), none, none, none] (by decide) (leb rfl) rfl ?_
  refine RD.aload_n (pc := 0) dX5_systemCall_0 rfl ?_
  refine RD.getR (pc := 1) dX5_systemCall_1 flX5_33 (ok2 hi) rfl rfl ?_
  refine RD.bipush (pc := 4) (v := 120) dX5_systemCall_4 (by decide) ?_
  refine RD.iL (pc := 6) (n := 128) 120 (v := D (3, i, 0) 120) rfl dX5_systemCall_6 (ok3 hi) rfl rfl (by decide) (by decide) ?_
  refine RD.istore_n (pc := 7) (ls' := [some (rR (0, 0, 0)), some (rR (2, i, 0)), some (rI 4), some (rI (D (3, i, 0) 120)), none, none]) dX5_systemCall_7 (by decide) rfl ?_
  refine RD.aload_n (pc := 8) dX5_systemCall_8 rfl ?_
  refine RD.getR (pc := 9) dX5_systemCall_9 flX5_33 (ok2 hi) rfl rfl ?_
  refine RD.bipush (pc := 12) (v := 121) dX5_systemCall_12 (by decide) ?_
  refine RD.iL (pc := 14) (n := 128) 121 (v := D (3, i, 0) 121) rfl dX5_systemCall_14 (ok3 hi) rfl rfl (by decide) (by decide) ?_
  refine RD.istore (pc := 15) (ls' := [some (rR (0, 0, 0)), some (rR (2, i, 0)), some (rI 4), some (rI (D (3, i, 0) 120)), some (rI (D (3, i, 0) 121)), none]) dX5_systemCall_15 (by decide) rfl ?_
  refine RD.aload_n (pc := 17) dX5_systemCall_17 rfl ?_
  refine RD.getR (pc := 18) dX5_systemCall_18 flX5_33 (ok2 hi) rfl rfl ?_
  refine RD.bipush (pc := 21) (v := 122) dX5_systemCall_21 (by decide) ?_
  refine RD.iL (pc := 23) (n := 128) 122 (v := D (3, i, 0) 122) rfl dX5_systemCall_23 (ok3 hi) rfl rfl (by decide) (by decide) ?_
  refine RD.istore (pc := 24) (ls' := [some (rR (0, 0, 0)), some (rR (2, i, 0)), some (rI 4), some (rI (D (3, i, 0) 120)), some (rI (D (3, i, 0) 121)), some (rI (D (3, i, 0) 122))]) dX5_systemCall_24 (by decide) rfl ?_
  refine RD.iload_n (pc := 26) dX5_systemCall_26 rfl ?_
  refine RD.iconst (pc := 27) (v := 1) dX5_systemCall_27 (by decide) ?_
  refine RD.icmp_eq (pc := 28) 37 dX5_systemCall_28 (by decide) (fun c28 => absurd c28 (by decide)) (fun c28 => ?_)
  refine RD.iload_n (pc := 31) dX5_systemCall_31 rfl ?_
  refine RD.bipush (pc := 32) (v := 6) dX5_systemCall_32 (by decide) ?_
  refine RD.icmp_ne (pc := 34) 52 dX5_systemCall_34 (by decide) (fun c34 => ?_) (fun c34 => absurd c34 (by decide))
  refine RD.iload_n (pc := 52) dX5_systemCall_52 rfl ?_
  refine RD.tableIn (pc := 53) 172 dX5_systemCall_53 (by decide) (by decide) rfl (by decide) ?_
  refine RD.aload_n (pc := 172) dX5_systemCall_172 rfl ?_
  refine RD.aload_n (pc := 173) dX5_systemCall_173 rfl ?_
  refine RD.aload_n (pc := 174) dX5_systemCall_174 rfl ?_
  refine RD.iload_n (pc := 175) dX5_systemCall_175 rfl ?_
  refine RD.iload (pc := 176) dX5_systemCall_176 rfl ?_
  refine RD.iload (pc := 178) dX5_systemCall_178 rfl ?_
  refine RD.cV4 (pc := 180) dX5_systemCall_180 mlX5_192 rfl ok0 rfl hc (leb rfl) ?_
  refine RD.putf (pc := 183) dX5_systemCall_183 fpX5_108 (ok2 hi) rfl rfl rfl rfl ?_
  refine RD.goto (pc := 186) 295 dX5_systemCall_186 (by decide) ?_
  refine RD.ret (pc := 295) ⟨rfl, dX5_systemCall_295⟩ ?_
  exact ⟨rfl, rfl⟩

set_option maxRecDepth 20000 in
set_option maxHeartbeats 1000000 in
theorem c_sys5 (K : EK) (d : Nat) {i : Nat} (hi : i < 8) (D : DT) {r : Int32} {D2 : DT} (hc : CF K mX2_receive d [rR (2, i, 0)] D (some (rI r)) D2) : CF K mX5_systemCall (d + 1) [rR (0, 0, 0), rR (2, i, 0), rI 5] D (none) (up D2 (2, i, 0) 2 r) := by
  refine CF.of [some (rR (0, 0, 0)), some (rR (2, i, 0)), some (rI 5), none, none, none] (by decide) (leb rfl) rfl ?_
  refine RD.aload_n (pc := 0) dX5_systemCall_0 rfl ?_
  refine RD.getR (pc := 1) dX5_systemCall_1 flX5_33 (ok2 hi) rfl rfl ?_
  refine RD.bipush (pc := 4) (v := 120) dX5_systemCall_4 (by decide) ?_
  refine RD.iL (pc := 6) (n := 128) 120 (v := D (3, i, 0) 120) rfl dX5_systemCall_6 (ok3 hi) rfl rfl (by decide) (by decide) ?_
  refine RD.istore_n (pc := 7) (ls' := [some (rR (0, 0, 0)), some (rR (2, i, 0)), some (rI 5), some (rI (D (3, i, 0) 120)), none, none]) dX5_systemCall_7 (by decide) rfl ?_
  refine RD.aload_n (pc := 8) dX5_systemCall_8 rfl ?_
  refine RD.getR (pc := 9) dX5_systemCall_9 flX5_33 (ok2 hi) rfl rfl ?_
  refine RD.bipush (pc := 12) (v := 121) dX5_systemCall_12 (by decide) ?_
  refine RD.iL (pc := 14) (n := 128) 121 (v := D (3, i, 0) 121) rfl dX5_systemCall_14 (ok3 hi) rfl rfl (by decide) (by decide) ?_
  refine RD.istore (pc := 15) (ls' := [some (rR (0, 0, 0)), some (rR (2, i, 0)), some (rI 5), some (rI (D (3, i, 0) 120)), some (rI (D (3, i, 0) 121)), none]) dX5_systemCall_15 (by decide) rfl ?_
  refine RD.aload_n (pc := 17) dX5_systemCall_17 rfl ?_
  refine RD.getR (pc := 18) dX5_systemCall_18 flX5_33 (ok2 hi) rfl rfl ?_
  refine RD.bipush (pc := 21) (v := 122) dX5_systemCall_21 (by decide) ?_
  refine RD.iL (pc := 23) (n := 128) 122 (v := D (3, i, 0) 122) rfl dX5_systemCall_23 (ok3 hi) rfl rfl (by decide) (by decide) ?_
  refine RD.istore (pc := 24) (ls' := [some (rR (0, 0, 0)), some (rR (2, i, 0)), some (rI 5), some (rI (D (3, i, 0) 120)), some (rI (D (3, i, 0) 121)), some (rI (D (3, i, 0) 122))]) dX5_systemCall_24 (by decide) rfl ?_
  refine RD.iload_n (pc := 26) dX5_systemCall_26 rfl ?_
  refine RD.iconst (pc := 27) (v := 1) dX5_systemCall_27 (by decide) ?_
  refine RD.icmp_eq (pc := 28) 37 dX5_systemCall_28 (by decide) (fun c28 => absurd c28 (by decide)) (fun c28 => ?_)
  refine RD.iload_n (pc := 31) dX5_systemCall_31 rfl ?_
  refine RD.bipush (pc := 32) (v := 6) dX5_systemCall_32 (by decide) ?_
  refine RD.icmp_ne (pc := 34) 52 dX5_systemCall_34 (by decide) (fun c34 => ?_) (fun c34 => absurd c34 (by decide))
  refine RD.iload_n (pc := 52) dX5_systemCall_52 rfl ?_
  refine RD.tableIn (pc := 53) 189 dX5_systemCall_53 (by decide) (by decide) rfl (by decide) ?_
  refine RD.aload_n (pc := 189) dX5_systemCall_189 rfl ?_
  refine RD.aload_n (pc := 190) dX5_systemCall_190 rfl ?_
  refine RD.cV0 (pc := 191) dX5_systemCall_191 mlX5_195 rfl (ok2 hi) rfl hc (leb rfl) ?_
  refine RD.putf (pc := 194) dX5_systemCall_194 fpX5_108 (ok2 hi) rfl rfl rfl rfl ?_
  refine RD.goto (pc := 197) 295 dX5_systemCall_197 (by decide) ?_
  refine RD.ret (pc := 295) ⟨rfl, dX5_systemCall_295⟩ ?_
  exact ⟨rfl, rfl⟩

set_option maxRecDepth 20000 in
set_option maxHeartbeats 1000000 in
theorem c_sys7 (K : EK) (d : Nat) {i : Nat} (hi : i < 8) (D : DT) {r : Int32} {D2 : DT} (hc : CF K mX5_read d [rR (0, 0, 0), rR (2, i, 0), rI (D (3, i, 0) 120), rI (D (3, i, 0) 121)] D (some (rI r)) D2) : CF K mX5_systemCall (d + 1) [rR (0, 0, 0), rR (2, i, 0), rI 7] D (none) (up D2 (2, i, 0) 2 r) := by
  refine CF.of [some (rR (0, 0, 0)), some (rR (2, i, 0)), some (rI 7), none, none, none] (by decide) (leb rfl) rfl ?_
  refine RD.aload_n (pc := 0) dX5_systemCall_0 rfl ?_
  refine RD.getR (pc := 1) dX5_systemCall_1 flX5_33 (ok2 hi) rfl rfl ?_
  refine RD.bipush (pc := 4) (v := 120) dX5_systemCall_4 (by decide) ?_
  refine RD.iL (pc := 6) (n := 128) 120 (v := D (3, i, 0) 120) rfl dX5_systemCall_6 (ok3 hi) rfl rfl (by decide) (by decide) ?_
  refine RD.istore_n (pc := 7) (ls' := [some (rR (0, 0, 0)), some (rR (2, i, 0)), some (rI 7), some (rI (D (3, i, 0) 120)), none, none]) dX5_systemCall_7 (by decide) rfl ?_
  refine RD.aload_n (pc := 8) dX5_systemCall_8 rfl ?_
  refine RD.getR (pc := 9) dX5_systemCall_9 flX5_33 (ok2 hi) rfl rfl ?_
  refine RD.bipush (pc := 12) (v := 121) dX5_systemCall_12 (by decide) ?_
  refine RD.iL (pc := 14) (n := 128) 121 (v := D (3, i, 0) 121) rfl dX5_systemCall_14 (ok3 hi) rfl rfl (by decide) (by decide) ?_
  refine RD.istore (pc := 15) (ls' := [some (rR (0, 0, 0)), some (rR (2, i, 0)), some (rI 7), some (rI (D (3, i, 0) 120)), some (rI (D (3, i, 0) 121)), none]) dX5_systemCall_15 (by decide) rfl ?_
  refine RD.aload_n (pc := 17) dX5_systemCall_17 rfl ?_
  refine RD.getR (pc := 18) dX5_systemCall_18 flX5_33 (ok2 hi) rfl rfl ?_
  refine RD.bipush (pc := 21) (v := 122) dX5_systemCall_21 (by decide) ?_
  refine RD.iL (pc := 23) (n := 128) 122 (v := D (3, i, 0) 122) rfl dX5_systemCall_23 (ok3 hi) rfl rfl (by decide) (by decide) ?_
  refine RD.istore (pc := 24) (ls' := [some (rR (0, 0, 0)), some (rR (2, i, 0)), some (rI 7), some (rI (D (3, i, 0) 120)), some (rI (D (3, i, 0) 121)), some (rI (D (3, i, 0) 122))]) dX5_systemCall_24 (by decide) rfl ?_
  refine RD.iload_n (pc := 26) dX5_systemCall_26 rfl ?_
  refine RD.iconst (pc := 27) (v := 1) dX5_systemCall_27 (by decide) ?_
  refine RD.icmp_eq (pc := 28) 37 dX5_systemCall_28 (by decide) (fun c28 => absurd c28 (by decide)) (fun c28 => ?_)
  refine RD.iload_n (pc := 31) dX5_systemCall_31 rfl ?_
  refine RD.bipush (pc := 32) (v := 6) dX5_systemCall_32 (by decide) ?_
  refine RD.icmp_ne (pc := 34) 52 dX5_systemCall_34 (by decide) (fun c34 => ?_) (fun c34 => absurd c34 (by decide))
  refine RD.iload_n (pc := 52) dX5_systemCall_52 rfl ?_
  refine RD.tableIn (pc := 53) 215 dX5_systemCall_53 (by decide) (by decide) rfl (by decide) ?_
  refine RD.aload_n (pc := 215) dX5_systemCall_215 rfl ?_
  refine RD.aload_n (pc := 216) dX5_systemCall_216 rfl ?_
  refine RD.aload_n (pc := 217) dX5_systemCall_217 rfl ?_
  refine RD.iload_n (pc := 218) dX5_systemCall_218 rfl ?_
  refine RD.iload (pc := 219) dX5_systemCall_219 rfl ?_
  refine RD.cV3 (pc := 221) dX5_systemCall_221 mlX5_201 rfl ok0 rfl hc (leb rfl) ?_
  refine RD.putf (pc := 224) dX5_systemCall_224 fpX5_108 (ok2 hi) rfl rfl rfl rfl ?_
  refine RD.goto (pc := 227) 295 dX5_systemCall_227 (by decide) ?_
  refine RD.ret (pc := 295) ⟨rfl, dX5_systemCall_295⟩ ?_
  exact ⟨rfl, rfl⟩

set_option maxRecDepth 20000 in
set_option maxHeartbeats 1000000 in
theorem c_sys8 (K : EK) (d : Nat) {i : Nat} (hi : i < 8) (D : DT) {r : Int32} {D2 : DT} (hc : CF K mX5_write d [rR (0, 0, 0), rR (2, i, 0), rI (D (3, i, 0) 120), rI (D (3, i, 0) 121), rI (D (3, i, 0) 122)] D (some (rI r)) D2) : CF K mX5_systemCall (d + 1) [rR (0, 0, 0), rR (2, i, 0), rI 8] D (none) (up D2 (2, i, 0) 2 r) := by
  refine CF.of [some (rR (0, 0, 0)), some (rR (2, i, 0)), some (rI 8), none, none, none] (by decide) (leb rfl) rfl ?_
  refine RD.aload_n (pc := 0) dX5_systemCall_0 rfl ?_
  refine RD.getR (pc := 1) dX5_systemCall_1 flX5_33 (ok2 hi) rfl rfl ?_
  refine RD.bipush (pc := 4) (v := 120) dX5_systemCall_4 (by decide) ?_
  refine RD.iL (pc := 6) (n := 128) 120 (v := D (3, i, 0) 120) rfl dX5_systemCall_6 (ok3 hi) rfl rfl (by decide) (by decide) ?_
  refine RD.istore_n (pc := 7) (ls' := [some (rR (0, 0, 0)), some (rR (2, i, 0)), some (rI 8), some (rI (D (3, i, 0) 120)), none, none]) dX5_systemCall_7 (by decide) rfl ?_
  refine RD.aload_n (pc := 8) dX5_systemCall_8 rfl ?_
  refine RD.getR (pc := 9) dX5_systemCall_9 flX5_33 (ok2 hi) rfl rfl ?_
  refine RD.bipush (pc := 12) (v := 121) dX5_systemCall_12 (by decide) ?_
  refine RD.iL (pc := 14) (n := 128) 121 (v := D (3, i, 0) 121) rfl dX5_systemCall_14 (ok3 hi) rfl rfl (by decide) (by decide) ?_
  refine RD.istore (pc := 15) (ls' := [some (rR (0, 0, 0)), some (rR (2, i, 0)), some (rI 8), some (rI (D (3, i, 0) 120)), some (rI (D (3, i, 0) 121)), none]) dX5_systemCall_15 (by decide) rfl ?_
  refine RD.aload_n (pc := 17) dX5_systemCall_17 rfl ?_
  refine RD.getR (pc := 18) dX5_systemCall_18 flX5_33 (ok2 hi) rfl rfl ?_
  refine RD.bipush (pc := 21) (v := 122) dX5_systemCall_21 (by decide) ?_
  refine RD.iL (pc := 23) (n := 128) 122 (v := D (3, i, 0) 122) rfl dX5_systemCall_23 (ok3 hi) rfl rfl (by decide) (by decide) ?_
  refine RD.istore (pc := 24) (ls' := [some (rR (0, 0, 0)), some (rR (2, i, 0)), some (rI 8), some (rI (D (3, i, 0) 120)), some (rI (D (3, i, 0) 121)), some (rI (D (3, i, 0) 122))]) dX5_systemCall_24 (by decide) rfl ?_
  refine RD.iload_n (pc := 26) dX5_systemCall_26 rfl ?_
  refine RD.iconst (pc := 27) (v := 1) dX5_systemCall_27 (by decide) ?_
  refine RD.icmp_eq (pc := 28) 37 dX5_systemCall_28 (by decide) (fun c28 => absurd c28 (by decide)) (fun c28 => ?_)
  refine RD.iload_n (pc := 31) dX5_systemCall_31 rfl ?_
  refine RD.bipush (pc := 32) (v := 6) dX5_systemCall_32 (by decide) ?_
  refine RD.icmp_ne (pc := 34) 52 dX5_systemCall_34 (by decide) (fun c34 => ?_) (fun c34 => absurd c34 (by decide))
  refine RD.iload_n (pc := 52) dX5_systemCall_52 rfl ?_
  refine RD.tableIn (pc := 53) 230 dX5_systemCall_53 (by decide) (by decide) rfl (by decide) ?_
  refine RD.aload_n (pc := 230) dX5_systemCall_230 rfl ?_
  refine RD.aload_n (pc := 231) dX5_systemCall_231 rfl ?_
  refine RD.aload_n (pc := 232) dX5_systemCall_232 rfl ?_
  refine RD.iload_n (pc := 233) dX5_systemCall_233 rfl ?_
  refine RD.iload (pc := 234) dX5_systemCall_234 rfl ?_
  refine RD.iload (pc := 236) dX5_systemCall_236 rfl ?_
  refine RD.cV4 (pc := 238) dX5_systemCall_238 mlX5_205 rfl ok0 rfl hc (leb rfl) ?_
  refine RD.putf (pc := 241) dX5_systemCall_241 fpX5_108 (ok2 hi) rfl rfl rfl rfl ?_
  refine RD.goto (pc := 244) 295 dX5_systemCall_244 (by decide) ?_
  refine RD.ret (pc := 295) ⟨rfl, dX5_systemCall_295⟩ ?_
  exact ⟨rfl, rfl⟩

set_option maxRecDepth 20000 in
set_option maxHeartbeats 1000000 in
theorem c_sys9 (K : EK) (d : Nat) {i : Nat} (hi : i < 8) (D : DT) {r : Int32} {D2 : DT} (hc : CF K mX5_spawn d [rR (0, 0, 0), rR (2, i, 0), rI (D (3, i, 0) 120), rI (D (3, i, 0) 121), rI (D (3, i, 0) 122)] D (some (rI r)) D2) : CF K mX5_systemCall (d + 1) [rR (0, 0, 0), rR (2, i, 0), rI 9] D (none) (up D2 (2, i, 0) 2 r) := by
  refine CF.of [some (rR (0, 0, 0)), some (rR (2, i, 0)), some (rI 9), none, none, none] (by decide) (leb rfl) rfl ?_
  refine RD.aload_n (pc := 0) dX5_systemCall_0 rfl ?_
  refine RD.getR (pc := 1) dX5_systemCall_1 flX5_33 (ok2 hi) rfl rfl ?_
  refine RD.bipush (pc := 4) (v := 120) dX5_systemCall_4 (by decide) ?_
  refine RD.iL (pc := 6) (n := 128) 120 (v := D (3, i, 0) 120) rfl dX5_systemCall_6 (ok3 hi) rfl rfl (by decide) (by decide) ?_
  refine RD.istore_n (pc := 7) (ls' := [some (rR (0, 0, 0)), some (rR (2, i, 0)), some (rI 9), some (rI (D (3, i, 0) 120)), none, none]) dX5_systemCall_7 (by decide) rfl ?_
  refine RD.aload_n (pc := 8) dX5_systemCall_8 rfl ?_
  refine RD.getR (pc := 9) dX5_systemCall_9 flX5_33 (ok2 hi) rfl rfl ?_
  refine RD.bipush (pc := 12) (v := 121) dX5_systemCall_12 (by decide) ?_
  refine RD.iL (pc := 14) (n := 128) 121 (v := D (3, i, 0) 121) rfl dX5_systemCall_14 (ok3 hi) rfl rfl (by decide) (by decide) ?_
  refine RD.istore (pc := 15) (ls' := [some (rR (0, 0, 0)), some (rR (2, i, 0)), some (rI 9), some (rI (D (3, i, 0) 120)), some (rI (D (3, i, 0) 121)), none]) dX5_systemCall_15 (by decide) rfl ?_
  refine RD.aload_n (pc := 17) dX5_systemCall_17 rfl ?_
  refine RD.getR (pc := 18) dX5_systemCall_18 flX5_33 (ok2 hi) rfl rfl ?_
  refine RD.bipush (pc := 21) (v := 122) dX5_systemCall_21 (by decide) ?_
  refine RD.iL (pc := 23) (n := 128) 122 (v := D (3, i, 0) 122) rfl dX5_systemCall_23 (ok3 hi) rfl rfl (by decide) (by decide) ?_
  refine RD.istore (pc := 24) (ls' := [some (rR (0, 0, 0)), some (rR (2, i, 0)), some (rI 9), some (rI (D (3, i, 0) 120)), some (rI (D (3, i, 0) 121)), some (rI (D (3, i, 0) 122))]) dX5_systemCall_24 (by decide) rfl ?_
  refine RD.iload_n (pc := 26) dX5_systemCall_26 rfl ?_
  refine RD.iconst (pc := 27) (v := 1) dX5_systemCall_27 (by decide) ?_
  refine RD.icmp_eq (pc := 28) 37 dX5_systemCall_28 (by decide) (fun c28 => absurd c28 (by decide)) (fun c28 => ?_)
  refine RD.iload_n (pc := 31) dX5_systemCall_31 rfl ?_
  refine RD.bipush (pc := 32) (v := 6) dX5_systemCall_32 (by decide) ?_
  refine RD.icmp_ne (pc := 34) 52 dX5_systemCall_34 (by decide) (fun c34 => ?_) (fun c34 => absurd c34 (by decide))
  refine RD.iload_n (pc := 52) dX5_systemCall_52 rfl ?_
  refine RD.tableIn (pc := 53) 247 dX5_systemCall_53 (by decide) (by decide) rfl (by decide) ?_
  refine RD.aload_n (pc := 247) dX5_systemCall_247 rfl ?_
  refine RD.aload_n (pc := 248) dX5_systemCall_248 rfl ?_
  refine RD.aload_n (pc := 249) dX5_systemCall_249 rfl ?_
  refine RD.iload_n (pc := 250) dX5_systemCall_250 rfl ?_
  refine RD.iload (pc := 251) dX5_systemCall_251 rfl ?_
  refine RD.iload (pc := 253) dX5_systemCall_253 rfl ?_
  refine RD.cV4 (pc := 255) dX5_systemCall_255 mlX5_208 rfl ok0 rfl hc (leb rfl) ?_
  refine RD.putf (pc := 258) dX5_systemCall_258 fpX5_108 (ok2 hi) rfl rfl rfl rfl ?_
  refine RD.goto (pc := 261) 295 dX5_systemCall_261 (by decide) ?_
  refine RD.ret (pc := 295) ⟨rfl, dX5_systemCall_295⟩ ?_
  exact ⟨rfl, rfl⟩

set_option maxRecDepth 20000 in
set_option maxHeartbeats 1000000 in
theorem c_sys10 (K : EK) (d : Nat) {i : Nat} (hi : i < 8) (D : DT) {r : Int32} {D2 : DT} (hc : CF K mX2_addOutput d [rR (2, i, 0), rI (D (3, i, 0) 120)] D (some (rI r)) D2) : CF K mX5_systemCall (d + 1) [rR (0, 0, 0), rR (2, i, 0), rI 10] D (none) (up D2 (2, i, 0) 2 r) := by
  refine CF.of [some (rR (0, 0, 0)), some (rR (2, i, 0)), some (rI 10), none, none, none] (by decide) (leb rfl) rfl ?_
  refine RD.aload_n (pc := 0) dX5_systemCall_0 rfl ?_
  refine RD.getR (pc := 1) dX5_systemCall_1 flX5_33 (ok2 hi) rfl rfl ?_
  refine RD.bipush (pc := 4) (v := 120) dX5_systemCall_4 (by decide) ?_
  refine RD.iL (pc := 6) (n := 128) 120 (v := D (3, i, 0) 120) rfl dX5_systemCall_6 (ok3 hi) rfl rfl (by decide) (by decide) ?_
  refine RD.istore_n (pc := 7) (ls' := [some (rR (0, 0, 0)), some (rR (2, i, 0)), some (rI 10), some (rI (D (3, i, 0) 120)), none, none]) dX5_systemCall_7 (by decide) rfl ?_
  refine RD.aload_n (pc := 8) dX5_systemCall_8 rfl ?_
  refine RD.getR (pc := 9) dX5_systemCall_9 flX5_33 (ok2 hi) rfl rfl ?_
  refine RD.bipush (pc := 12) (v := 121) dX5_systemCall_12 (by decide) ?_
  refine RD.iL (pc := 14) (n := 128) 121 (v := D (3, i, 0) 121) rfl dX5_systemCall_14 (ok3 hi) rfl rfl (by decide) (by decide) ?_
  refine RD.istore (pc := 15) (ls' := [some (rR (0, 0, 0)), some (rR (2, i, 0)), some (rI 10), some (rI (D (3, i, 0) 120)), some (rI (D (3, i, 0) 121)), none]) dX5_systemCall_15 (by decide) rfl ?_
  refine RD.aload_n (pc := 17) dX5_systemCall_17 rfl ?_
  refine RD.getR (pc := 18) dX5_systemCall_18 flX5_33 (ok2 hi) rfl rfl ?_
  refine RD.bipush (pc := 21) (v := 122) dX5_systemCall_21 (by decide) ?_
  refine RD.iL (pc := 23) (n := 128) 122 (v := D (3, i, 0) 122) rfl dX5_systemCall_23 (ok3 hi) rfl rfl (by decide) (by decide) ?_
  refine RD.istore (pc := 24) (ls' := [some (rR (0, 0, 0)), some (rR (2, i, 0)), some (rI 10), some (rI (D (3, i, 0) 120)), some (rI (D (3, i, 0) 121)), some (rI (D (3, i, 0) 122))]) dX5_systemCall_24 (by decide) rfl ?_
  refine RD.iload_n (pc := 26) dX5_systemCall_26 rfl ?_
  refine RD.iconst (pc := 27) (v := 1) dX5_systemCall_27 (by decide) ?_
  refine RD.icmp_eq (pc := 28) 37 dX5_systemCall_28 (by decide) (fun c28 => absurd c28 (by decide)) (fun c28 => ?_)
  refine RD.iload_n (pc := 31) dX5_systemCall_31 rfl ?_
  refine RD.bipush (pc := 32) (v := 6) dX5_systemCall_32 (by decide) ?_
  refine RD.icmp_ne (pc := 34) 52 dX5_systemCall_34 (by decide) (fun c34 => ?_) (fun c34 => absurd c34 (by decide))
  refine RD.iload_n (pc := 52) dX5_systemCall_52 rfl ?_
  refine RD.tableIn (pc := 53) 264 dX5_systemCall_53 (by decide) (by decide) rfl (by decide) ?_
  refine RD.aload_n (pc := 264) dX5_systemCall_264 rfl ?_
  refine RD.aload_n (pc := 265) dX5_systemCall_265 rfl ?_
  refine RD.iload_n (pc := 266) dX5_systemCall_266 rfl ?_
  refine RD.cV1 (pc := 267) dX5_systemCall_267 mlX5_211 rfl (ok2 hi) rfl hc (leb rfl) ?_
  refine RD.putf (pc := 270) dX5_systemCall_270 fpX5_108 (ok2 hi) rfl rfl rfl rfl ?_
  refine RD.goto (pc := 273) 295 dX5_systemCall_273 (by decide) ?_
  refine RD.ret (pc := 295) ⟨rfl, dX5_systemCall_295⟩ ?_
  exact ⟨rfl, rfl⟩

set_option maxRecDepth 20000 in
set_option maxHeartbeats 1000000 in
theorem c_sys11 (K : EK) (d : Nat) {i : Nat} (hi : i < 8) (D : DT) : CF K mX5_systemCall (d + 1) [rR (0, 0, 0), rR (2, i, 0), rI 11] D (none) (up D (2, i, 0) 2 (D (4, i, 0) 1)) := by
  refine CF.of [some (rR (0, 0, 0)), some (rR (2, i, 0)), some (rI 11), none, none, none] (by decide) (leb rfl) rfl ?_
  refine RD.aload_n (pc := 0) dX5_systemCall_0 rfl ?_
  refine RD.getR (pc := 1) dX5_systemCall_1 flX5_33 (ok2 hi) rfl rfl ?_
  refine RD.bipush (pc := 4) (v := 120) dX5_systemCall_4 (by decide) ?_
  refine RD.iL (pc := 6) (n := 128) 120 (v := D (3, i, 0) 120) rfl dX5_systemCall_6 (ok3 hi) rfl rfl (by decide) (by decide) ?_
  refine RD.istore_n (pc := 7) (ls' := [some (rR (0, 0, 0)), some (rR (2, i, 0)), some (rI 11), some (rI (D (3, i, 0) 120)), none, none]) dX5_systemCall_7 (by decide) rfl ?_
  refine RD.aload_n (pc := 8) dX5_systemCall_8 rfl ?_
  refine RD.getR (pc := 9) dX5_systemCall_9 flX5_33 (ok2 hi) rfl rfl ?_
  refine RD.bipush (pc := 12) (v := 121) dX5_systemCall_12 (by decide) ?_
  refine RD.iL (pc := 14) (n := 128) 121 (v := D (3, i, 0) 121) rfl dX5_systemCall_14 (ok3 hi) rfl rfl (by decide) (by decide) ?_
  refine RD.istore (pc := 15) (ls' := [some (rR (0, 0, 0)), some (rR (2, i, 0)), some (rI 11), some (rI (D (3, i, 0) 120)), some (rI (D (3, i, 0) 121)), none]) dX5_systemCall_15 (by decide) rfl ?_
  refine RD.aload_n (pc := 17) dX5_systemCall_17 rfl ?_
  refine RD.getR (pc := 18) dX5_systemCall_18 flX5_33 (ok2 hi) rfl rfl ?_
  refine RD.bipush (pc := 21) (v := 122) dX5_systemCall_21 (by decide) ?_
  refine RD.iL (pc := 23) (n := 128) 122 (v := D (3, i, 0) 122) rfl dX5_systemCall_23 (ok3 hi) rfl rfl (by decide) (by decide) ?_
  refine RD.istore (pc := 24) (ls' := [some (rR (0, 0, 0)), some (rR (2, i, 0)), some (rI 11), some (rI (D (3, i, 0) 120)), some (rI (D (3, i, 0) 121)), some (rI (D (3, i, 0) 122))]) dX5_systemCall_24 (by decide) rfl ?_
  refine RD.iload_n (pc := 26) dX5_systemCall_26 rfl ?_
  refine RD.iconst (pc := 27) (v := 1) dX5_systemCall_27 (by decide) ?_
  refine RD.icmp_eq (pc := 28) 37 dX5_systemCall_28 (by decide) (fun c28 => absurd c28 (by decide)) (fun c28 => ?_)
  refine RD.iload_n (pc := 31) dX5_systemCall_31 rfl ?_
  refine RD.bipush (pc := 32) (v := 6) dX5_systemCall_32 (by decide) ?_
  refine RD.icmp_ne (pc := 34) 52 dX5_systemCall_34 (by decide) (fun c34 => ?_) (fun c34 => absurd c34 (by decide))
  refine RD.iload_n (pc := 52) dX5_systemCall_52 rfl ?_
  refine RD.tableIn (pc := 53) 276 dX5_systemCall_53 (by decide) (by decide) rfl (by decide) ?_
  refine RD.aload_n (pc := 276) dX5_systemCall_276 rfl ?_
  refine RD.aload_n (pc := 277) dX5_systemCall_277 rfl ?_
  refine RD.getR (pc := 278) dX5_systemCall_278 flX5_46 (ok2 hi) rfl rfl ?_
  refine RD.gI (pc := 281) (v := D (4, i, 0) 1) rfl dX5_systemCall_281 flX5_71 (ok4 hi (by decide)) rfl rfl ?_
  refine RD.putf (pc := 284) dX5_systemCall_284 fpX5_108 (ok2 hi) rfl rfl rfl rfl ?_
  refine RD.goto (pc := 287) 295 dX5_systemCall_287 (by decide) ?_
  refine RD.ret (pc := 295) ⟨rfl, dX5_systemCall_295⟩ ?_
  exact ⟨rfl, rfl⟩

set_option maxRecDepth 20000 in
set_option maxHeartbeats 1000000 in
theorem c_sys1 (K : EK) (d : Nat) {i : Nat} (hi : i < 8) (D : DT) {r : Int32} {D2 D3 : DT} (hl : CF K mX5_readList d [rR (0, 0, 0), rR (2, i, 0), rI (D (3, i, 0) 120)] D (some (rI 1)) D2) (hc : CF K mX2_relabel d [rR (2, i, 0), rR (4, 8, 0)] D2 (some (rI r)) D3) : CF K mX5_systemCall (d + 1) [rR (0, 0, 0), rR (2, i, 0), rI 1] D (none) (up D3 (2, i, 0) 2 r) := by
  refine CF.of [some (rR (0, 0, 0)), some (rR (2, i, 0)), some (rI 1), none, none, none] (by decide) (leb rfl) rfl ?_
  refine RD.aload_n (pc := 0) dX5_systemCall_0 rfl ?_
  refine RD.getR (pc := 1) dX5_systemCall_1 flX5_33 (ok2 hi) rfl rfl ?_
  refine RD.bipush (pc := 4) (v := 120) dX5_systemCall_4 (by decide) ?_
  refine RD.iL (pc := 6) (n := 128) 120 (v := D (3, i, 0) 120) rfl dX5_systemCall_6 (ok3 hi) rfl rfl (by decide) (by decide) ?_
  refine RD.istore_n (pc := 7) (ls' := [some (rR (0, 0, 0)), some (rR (2, i, 0)), some (rI 1), some (rI (D (3, i, 0) 120)), none, none]) dX5_systemCall_7 (by decide) rfl ?_
  refine RD.aload_n (pc := 8) dX5_systemCall_8 rfl ?_
  refine RD.getR (pc := 9) dX5_systemCall_9 flX5_33 (ok2 hi) rfl rfl ?_
  refine RD.bipush (pc := 12) (v := 121) dX5_systemCall_12 (by decide) ?_
  refine RD.iL (pc := 14) (n := 128) 121 (v := D (3, i, 0) 121) rfl dX5_systemCall_14 (ok3 hi) rfl rfl (by decide) (by decide) ?_
  refine RD.istore (pc := 15) (ls' := [some (rR (0, 0, 0)), some (rR (2, i, 0)), some (rI 1), some (rI (D (3, i, 0) 120)), some (rI (D (3, i, 0) 121)), none]) dX5_systemCall_15 (by decide) rfl ?_
  refine RD.aload_n (pc := 17) dX5_systemCall_17 rfl ?_
  refine RD.getR (pc := 18) dX5_systemCall_18 flX5_33 (ok2 hi) rfl rfl ?_
  refine RD.bipush (pc := 21) (v := 122) dX5_systemCall_21 (by decide) ?_
  refine RD.iL (pc := 23) (n := 128) 122 (v := D (3, i, 0) 122) rfl dX5_systemCall_23 (ok3 hi) rfl rfl (by decide) (by decide) ?_
  refine RD.istore (pc := 24) (ls' := [some (rR (0, 0, 0)), some (rR (2, i, 0)), some (rI 1), some (rI (D (3, i, 0) 120)), some (rI (D (3, i, 0) 121)), some (rI (D (3, i, 0) 122))]) dX5_systemCall_24 (by decide) rfl ?_
  refine RD.iload_n (pc := 26) dX5_systemCall_26 rfl ?_
  refine RD.iconst (pc := 27) (v := 1) dX5_systemCall_27 (by decide) ?_
  refine RD.icmp_eq (pc := 28) 37 dX5_systemCall_28 (by decide) (fun c28 => ?_) (fun c28 => absurd (by decide) c28)
  refine RD.aload_n (pc := 37) dX5_systemCall_37 rfl ?_
  refine RD.aload_n (pc := 38) dX5_systemCall_38 rfl ?_
  refine RD.iload_n (pc := 39) dX5_systemCall_39 rfl ?_
  refine RD.cV2 (pc := 40) dX5_systemCall_40 mlX5_174 rfl ok0 rfl hl (leb rfl) ?_
  refine RD.if_ne (pc := 43) 52 dX5_systemCall_43 (by decide) (fun c43 => ?_) (fun c43 => absurd c43 (by decide))
  refine RD.iload_n (pc := 52) dX5_systemCall_52 rfl ?_
  refine RD.tableIn (pc := 53) 127 dX5_systemCall_53 (by decide) (by decide) rfl (by decide) ?_
  refine RD.aload_n (pc := 127) dX5_systemCall_127 rfl ?_
  refine RD.aload_n (pc := 128) dX5_systemCall_128 rfl ?_
  refine RD.aload_n (pc := 129) dX5_systemCall_129 rfl ?_
  refine RD.getR (pc := 130) dX5_systemCall_130 flX5_21 ok0 rfl rfl ?_
  refine RD.cV1 (pc := 133) dX5_systemCall_133 mlX5_181 rfl (ok2 hi) rfl hc (leb rfl) ?_
  refine RD.putf (pc := 136) dX5_systemCall_136 fpX5_108 (ok2 hi) rfl rfl rfl rfl ?_
  refine RD.goto (pc := 139) 295 dX5_systemCall_139 (by decide) ?_
  refine RD.ret (pc := 295) ⟨rfl, dX5_systemCall_295⟩ ?_
  exact ⟨rfl, rfl⟩

set_option maxRecDepth 20000 in
set_option maxHeartbeats 1000000 in
theorem c_sys1N (K : EK) (d : Nat) {i : Nat} (hi : i < 8) (D : DT) (hl : CF K mX5_readList d [rR (0, 0, 0), rR (2, i, 0), rI (D (3, i, 0) 120)] D (some (rI 0)) D) : CF K mX5_systemCall (d + 1) [rR (0, 0, 0), rR (2, i, 0), rI 1] D (none) (stopF D i 2) := by
  refine CF.of [some (rR (0, 0, 0)), some (rR (2, i, 0)), some (rI 1), none, none, none] (by decide) (leb rfl) rfl ?_
  refine RD.aload_n (pc := 0) dX5_systemCall_0 rfl ?_
  refine RD.getR (pc := 1) dX5_systemCall_1 flX5_33 (ok2 hi) rfl rfl ?_
  refine RD.bipush (pc := 4) (v := 120) dX5_systemCall_4 (by decide) ?_
  refine RD.iL (pc := 6) (n := 128) 120 (v := D (3, i, 0) 120) rfl dX5_systemCall_6 (ok3 hi) rfl rfl (by decide) (by decide) ?_
  refine RD.istore_n (pc := 7) (ls' := [some (rR (0, 0, 0)), some (rR (2, i, 0)), some (rI 1), some (rI (D (3, i, 0) 120)), none, none]) dX5_systemCall_7 (by decide) rfl ?_
  refine RD.aload_n (pc := 8) dX5_systemCall_8 rfl ?_
  refine RD.getR (pc := 9) dX5_systemCall_9 flX5_33 (ok2 hi) rfl rfl ?_
  refine RD.bipush (pc := 12) (v := 121) dX5_systemCall_12 (by decide) ?_
  refine RD.iL (pc := 14) (n := 128) 121 (v := D (3, i, 0) 121) rfl dX5_systemCall_14 (ok3 hi) rfl rfl (by decide) (by decide) ?_
  refine RD.istore (pc := 15) (ls' := [some (rR (0, 0, 0)), some (rR (2, i, 0)), some (rI 1), some (rI (D (3, i, 0) 120)), some (rI (D (3, i, 0) 121)), none]) dX5_systemCall_15 (by decide) rfl ?_
  refine RD.aload_n (pc := 17) dX5_systemCall_17 rfl ?_
  refine RD.getR (pc := 18) dX5_systemCall_18 flX5_33 (ok2 hi) rfl rfl ?_
  refine RD.bipush (pc := 21) (v := 122) dX5_systemCall_21 (by decide) ?_
  refine RD.iL (pc := 23) (n := 128) 122 (v := D (3, i, 0) 122) rfl dX5_systemCall_23 (ok3 hi) rfl rfl (by decide) (by decide) ?_
  refine RD.istore (pc := 24) (ls' := [some (rR (0, 0, 0)), some (rR (2, i, 0)), some (rI 1), some (rI (D (3, i, 0) 120)), some (rI (D (3, i, 0) 121)), some (rI (D (3, i, 0) 122))]) dX5_systemCall_24 (by decide) rfl ?_
  refine RD.iload_n (pc := 26) dX5_systemCall_26 rfl ?_
  refine RD.iconst (pc := 27) (v := 1) dX5_systemCall_27 (by decide) ?_
  refine RD.icmp_eq (pc := 28) 37 dX5_systemCall_28 (by decide) (fun c28 => ?_) (fun c28 => absurd (by decide) c28)
  refine RD.aload_n (pc := 37) dX5_systemCall_37 rfl ?_
  refine RD.aload_n (pc := 38) dX5_systemCall_38 rfl ?_
  refine RD.iload_n (pc := 39) dX5_systemCall_39 rfl ?_
  refine RD.cV2 (pc := 40) dX5_systemCall_40 mlX5_174 rfl ok0 rfl hl (leb rfl) ?_
  refine RD.if_ne (pc := 43) 52 dX5_systemCall_43 (by decide) (fun c43 => absurd rfl c43) (fun c43 => ?_)
  refine RD.aload_n (pc := 46) dX5_systemCall_46 rfl ?_
  refine RD.iconst (pc := 47) (v := 2) dX5_systemCall_47 (by decide) ?_
  refine RD.cV1v (pc := 48) dX5_systemCall_48 mlX5_151 rfl (ok2 hi) rfl (c_stopBy K _ hi D 2) (leb rfl) ?_
  refine RD.ret (pc := 51) ⟨rfl, dX5_systemCall_51⟩ ?_
  exact ⟨rfl, rfl⟩

set_option maxRecDepth 20000 in
set_option maxHeartbeats 1000000 in
theorem c_sys6 (K : EK) (d : Nat) {i : Nat} (hi : i < 8) (D : DT) {r : Int32} {D2 D3 : DT} (hl : CF K mX5_readList d [rR (0, 0, 0), rR (2, i, 0), rI (D (3, i, 0) 120)] D (some (rI 1)) D2) (hc : CF K mX2_createFile d [rR (2, i, 0), rR (4, 8, 0)] D2 (some (rI r)) D3) : CF K mX5_systemCall (d + 1) [rR (0, 0, 0), rR (2, i, 0), rI 6] D (none) (up D3 (2, i, 0) 2 r) := by
  refine CF.of [some (rR (0, 0, 0)), some (rR (2, i, 0)), some (rI 6), none, none, none] (by decide) (leb rfl) rfl ?_
  refine RD.aload_n (pc := 0) dX5_systemCall_0 rfl ?_
  refine RD.getR (pc := 1) dX5_systemCall_1 flX5_33 (ok2 hi) rfl rfl ?_
  refine RD.bipush (pc := 4) (v := 120) dX5_systemCall_4 (by decide) ?_
  refine RD.iL (pc := 6) (n := 128) 120 (v := D (3, i, 0) 120) rfl dX5_systemCall_6 (ok3 hi) rfl rfl (by decide) (by decide) ?_
  refine RD.istore_n (pc := 7) (ls' := [some (rR (0, 0, 0)), some (rR (2, i, 0)), some (rI 6), some (rI (D (3, i, 0) 120)), none, none]) dX5_systemCall_7 (by decide) rfl ?_
  refine RD.aload_n (pc := 8) dX5_systemCall_8 rfl ?_
  refine RD.getR (pc := 9) dX5_systemCall_9 flX5_33 (ok2 hi) rfl rfl ?_
  refine RD.bipush (pc := 12) (v := 121) dX5_systemCall_12 (by decide) ?_
  refine RD.iL (pc := 14) (n := 128) 121 (v := D (3, i, 0) 121) rfl dX5_systemCall_14 (ok3 hi) rfl rfl (by decide) (by decide) ?_
  refine RD.istore (pc := 15) (ls' := [some (rR (0, 0, 0)), some (rR (2, i, 0)), some (rI 6), some (rI (D (3, i, 0) 120)), some (rI (D (3, i, 0) 121)), none]) dX5_systemCall_15 (by decide) rfl ?_
  refine RD.aload_n (pc := 17) dX5_systemCall_17 rfl ?_
  refine RD.getR (pc := 18) dX5_systemCall_18 flX5_33 (ok2 hi) rfl rfl ?_
  refine RD.bipush (pc := 21) (v := 122) dX5_systemCall_21 (by decide) ?_
  refine RD.iL (pc := 23) (n := 128) 122 (v := D (3, i, 0) 122) rfl dX5_systemCall_23 (ok3 hi) rfl rfl (by decide) (by decide) ?_
  refine RD.istore (pc := 24) (ls' := [some (rR (0, 0, 0)), some (rR (2, i, 0)), some (rI 6), some (rI (D (3, i, 0) 120)), some (rI (D (3, i, 0) 121)), some (rI (D (3, i, 0) 122))]) dX5_systemCall_24 (by decide) rfl ?_
  refine RD.iload_n (pc := 26) dX5_systemCall_26 rfl ?_
  refine RD.iconst (pc := 27) (v := 1) dX5_systemCall_27 (by decide) ?_
  refine RD.icmp_eq (pc := 28) 37 dX5_systemCall_28 (by decide) (fun c28 => absurd c28 (by decide)) (fun c28 => ?_)
  refine RD.iload_n (pc := 31) dX5_systemCall_31 rfl ?_
  refine RD.bipush (pc := 32) (v := 6) dX5_systemCall_32 (by decide) ?_
  refine RD.icmp_ne (pc := 34) 52 dX5_systemCall_34 (by decide) (fun c34 => absurd (by decide) c34) (fun c34 => ?_)
  refine RD.aload_n (pc := 37) dX5_systemCall_37 rfl ?_
  refine RD.aload_n (pc := 38) dX5_systemCall_38 rfl ?_
  refine RD.iload_n (pc := 39) dX5_systemCall_39 rfl ?_
  refine RD.cV2 (pc := 40) dX5_systemCall_40 mlX5_174 rfl ok0 rfl hl (leb rfl) ?_
  refine RD.if_ne (pc := 43) 52 dX5_systemCall_43 (by decide) (fun c43 => ?_) (fun c43 => absurd c43 (by decide))
  refine RD.iload_n (pc := 52) dX5_systemCall_52 rfl ?_
  refine RD.tableIn (pc := 53) 200 dX5_systemCall_53 (by decide) (by decide) rfl (by decide) ?_
  refine RD.aload_n (pc := 200) dX5_systemCall_200 rfl ?_
  refine RD.aload_n (pc := 201) dX5_systemCall_201 rfl ?_
  refine RD.aload_n (pc := 202) dX5_systemCall_202 rfl ?_
  refine RD.getR (pc := 203) dX5_systemCall_203 flX5_21 ok0 rfl rfl ?_
  refine RD.cV1 (pc := 206) dX5_systemCall_206 mlX5_198 rfl (ok2 hi) rfl hc (leb rfl) ?_
  refine RD.putf (pc := 209) dX5_systemCall_209 fpX5_108 (ok2 hi) rfl rfl rfl rfl ?_
  refine RD.goto (pc := 212) 295 dX5_systemCall_212 (by decide) ?_
  refine RD.ret (pc := 295) ⟨rfl, dX5_systemCall_295⟩ ?_
  exact ⟨rfl, rfl⟩

set_option maxRecDepth 20000 in
set_option maxHeartbeats 1000000 in
theorem c_sys6N (K : EK) (d : Nat) {i : Nat} (hi : i < 8) (D : DT) (hl : CF K mX5_readList d [rR (0, 0, 0), rR (2, i, 0), rI (D (3, i, 0) 120)] D (some (rI 0)) D) : CF K mX5_systemCall (d + 1) [rR (0, 0, 0), rR (2, i, 0), rI 6] D (none) (stopF D i 2) := by
  refine CF.of [some (rR (0, 0, 0)), some (rR (2, i, 0)), some (rI 6), none, none, none] (by decide) (leb rfl) rfl ?_
  refine RD.aload_n (pc := 0) dX5_systemCall_0 rfl ?_
  refine RD.getR (pc := 1) dX5_systemCall_1 flX5_33 (ok2 hi) rfl rfl ?_
  refine RD.bipush (pc := 4) (v := 120) dX5_systemCall_4 (by decide) ?_
  refine RD.iL (pc := 6) (n := 128) 120 (v := D (3, i, 0) 120) rfl dX5_systemCall_6 (ok3 hi) rfl rfl (by decide) (by decide) ?_
  refine RD.istore_n (pc := 7) (ls' := [some (rR (0, 0, 0)), some (rR (2, i, 0)), some (rI 6), some (rI (D (3, i, 0) 120)), none, none]) dX5_systemCall_7 (by decide) rfl ?_
  refine RD.aload_n (pc := 8) dX5_systemCall_8 rfl ?_
  refine RD.getR (pc := 9) dX5_systemCall_9 flX5_33 (ok2 hi) rfl rfl ?_
  refine RD.bipush (pc := 12) (v := 121) dX5_systemCall_12 (by decide) ?_
  refine RD.iL (pc := 14) (n := 128) 121 (v := D (3, i, 0) 121) rfl dX5_systemCall_14 (ok3 hi) rfl rfl (by decide) (by decide) ?_
  refine RD.istore (pc := 15) (ls' := [some (rR (0, 0, 0)), some (rR (2, i, 0)), some (rI 6), some (rI (D (3, i, 0) 120)), some (rI (D (3, i, 0) 121)), none]) dX5_systemCall_15 (by decide) rfl ?_
  refine RD.aload_n (pc := 17) dX5_systemCall_17 rfl ?_
  refine RD.getR (pc := 18) dX5_systemCall_18 flX5_33 (ok2 hi) rfl rfl ?_
  refine RD.bipush (pc := 21) (v := 122) dX5_systemCall_21 (by decide) ?_
  refine RD.iL (pc := 23) (n := 128) 122 (v := D (3, i, 0) 122) rfl dX5_systemCall_23 (ok3 hi) rfl rfl (by decide) (by decide) ?_
  refine RD.istore (pc := 24) (ls' := [some (rR (0, 0, 0)), some (rR (2, i, 0)), some (rI 6), some (rI (D (3, i, 0) 120)), some (rI (D (3, i, 0) 121)), some (rI (D (3, i, 0) 122))]) dX5_systemCall_24 (by decide) rfl ?_
  refine RD.iload_n (pc := 26) dX5_systemCall_26 rfl ?_
  refine RD.iconst (pc := 27) (v := 1) dX5_systemCall_27 (by decide) ?_
  refine RD.icmp_eq (pc := 28) 37 dX5_systemCall_28 (by decide) (fun c28 => absurd c28 (by decide)) (fun c28 => ?_)
  refine RD.iload_n (pc := 31) dX5_systemCall_31 rfl ?_
  refine RD.bipush (pc := 32) (v := 6) dX5_systemCall_32 (by decide) ?_
  refine RD.icmp_ne (pc := 34) 52 dX5_systemCall_34 (by decide) (fun c34 => absurd (by decide) c34) (fun c34 => ?_)
  refine RD.aload_n (pc := 37) dX5_systemCall_37 rfl ?_
  refine RD.aload_n (pc := 38) dX5_systemCall_38 rfl ?_
  refine RD.iload_n (pc := 39) dX5_systemCall_39 rfl ?_
  refine RD.cV2 (pc := 40) dX5_systemCall_40 mlX5_174 rfl ok0 rfl hl (leb rfl) ?_
  refine RD.if_ne (pc := 43) 52 dX5_systemCall_43 (by decide) (fun c43 => absurd rfl c43) (fun c43 => ?_)
  refine RD.aload_n (pc := 46) dX5_systemCall_46 rfl ?_
  refine RD.iconst (pc := 47) (v := 2) dX5_systemCall_47 (by decide) ?_
  refine RD.cV1v (pc := 48) dX5_systemCall_48 mlX5_151 rfl (ok2 hi) rfl (c_stopBy K _ hi D 2) (leb rfl) ?_
  refine RD.ret (pc := 51) ⟨rfl, dX5_systemCall_51⟩ ?_
  exact ⟨rfl, rfl⟩

set_option maxRecDepth 20000 in
set_option maxHeartbeats 1000000 in
theorem c_sysX (K : EK) (d : Nat) {i : Nat} (hi : i < 8) (D : DT) (x : Int32) (h : x.toInt < 0 ∨ 11 < x.toInt) : CF K mX5_systemCall (d + 1) [rR (0, 0, 0), rR (2, i, 0), rI x] D (none) (stopF D i 1) := by
  refine CF.of [some (rR (0, 0, 0)), some (rR (2, i, 0)), some (rI x), none, none, none] (by decide) (leb rfl) rfl ?_
  refine RD.aload_n (pc := 0) dX5_systemCall_0 rfl ?_
  refine RD.getR (pc := 1) dX5_systemCall_1 flX5_33 (ok2 hi) rfl rfl ?_
  refine RD.bipush (pc := 4) (v := 120) dX5_systemCall_4 (by decide) ?_
  refine RD.iL (pc := 6) (n := 128) 120 (v := D (3, i, 0) 120) rfl dX5_systemCall_6 (ok3 hi) rfl rfl (by decide) (by decide) ?_
  refine RD.istore_n (pc := 7) (ls' := [some (rR (0, 0, 0)), some (rR (2, i, 0)), some (rI x), some (rI (D (3, i, 0) 120)), none, none]) dX5_systemCall_7 (by decide) rfl ?_
  refine RD.aload_n (pc := 8) dX5_systemCall_8 rfl ?_
  refine RD.getR (pc := 9) dX5_systemCall_9 flX5_33 (ok2 hi) rfl rfl ?_
  refine RD.bipush (pc := 12) (v := 121) dX5_systemCall_12 (by decide) ?_
  refine RD.iL (pc := 14) (n := 128) 121 (v := D (3, i, 0) 121) rfl dX5_systemCall_14 (ok3 hi) rfl rfl (by decide) (by decide) ?_
  refine RD.istore (pc := 15) (ls' := [some (rR (0, 0, 0)), some (rR (2, i, 0)), some (rI x), some (rI (D (3, i, 0) 120)), some (rI (D (3, i, 0) 121)), none]) dX5_systemCall_15 (by decide) rfl ?_
  refine RD.aload_n (pc := 17) dX5_systemCall_17 rfl ?_
  refine RD.getR (pc := 18) dX5_systemCall_18 flX5_33 (ok2 hi) rfl rfl ?_
  refine RD.bipush (pc := 21) (v := 122) dX5_systemCall_21 (by decide) ?_
  refine RD.iL (pc := 23) (n := 128) 122 (v := D (3, i, 0) 122) rfl dX5_systemCall_23 (ok3 hi) rfl rfl (by decide) (by decide) ?_
  refine RD.istore (pc := 24) (ls' := [some (rR (0, 0, 0)), some (rR (2, i, 0)), some (rI x), some (rI (D (3, i, 0) 120)), some (rI (D (3, i, 0) 121)), some (rI (D (3, i, 0) 122))]) dX5_systemCall_24 (by decide) rfl ?_
  refine RD.iload_n (pc := 26) dX5_systemCall_26 rfl ?_
  refine RD.iconst (pc := 27) (v := 1) dX5_systemCall_27 (by decide) ?_
  refine RD.icmp_eq (pc := 28) 37 dX5_systemCall_28 (by decide) (fun c28 => absurd c28 (fun e => by rw [e] at h; revert h; decide)) (fun c28 => ?_)
  refine RD.iload_n (pc := 31) dX5_systemCall_31 rfl ?_
  refine RD.bipush (pc := 32) (v := 6) dX5_systemCall_32 (by decide) ?_
  refine RD.icmp_ne (pc := 34) 52 dX5_systemCall_34 (by decide) (fun c34 => ?_) (fun c34 => absurd c34 (fun e => by rw [e] at h; revert h; decide))
  refine RD.iload_n (pc := 52) dX5_systemCall_52 rfl ?_
  refine RD.tableOut (pc := 53) 290 dX5_systemCall_53 h (by decide) ?_
  refine RD.aload_n (pc := 290) dX5_systemCall_290 rfl ?_
  refine RD.iconst (pc := 291) (v := 1) dX5_systemCall_291 (by decide) ?_
  refine RD.cV1v (pc := 292) dX5_systemCall_292 mlX5_151 rfl (ok2 hi) rfl (c_stopBy K _ hi D 1) (leb rfl) ?_
  refine RD.ret (pc := 295) ⟨rfl, dX5_systemCall_295⟩ ?_
  exact ⟨rfl, rfl⟩

set_option maxRecDepth 20000 in
set_option maxHeartbeats 1000000 in
theorem c_stepN (K : EK) (d : Nat) {i : Nat} (hi : i < 8) (D : DT) (h : inR (D (2, i, 0) 3) 128 = false) : CF K mX5_step (d + 1) [rR (0, 0, 0), rR (2, i, 0)] D (none) (stopF D i 2) := by
  refine CF.of [some (rR (0, 0, 0)), some (rR (2, i, 0)), none, none, none] (by decide) (leb rfl) rfl ?_
  refine RD.aload_n (pc := 0) dX5_step_0 rfl ?_
  refine RD.gI (pc := 1) (v := D (2, i, 0) 3) rfl dX5_step_1 flX5_111 (ok2 hi) rfl rfl ?_
  refine RD.cS1 (pc := 4) dX5_step_4 mlX5_102 (c_isPlace K _ D (D (2, i, 0) 3)) (leb rfl) ?_
  refine RD.if_ne (pc := 7) 16 dX5_step_7 (by decide) (fun c7 => absurd (bIout h) c7) (fun c7 => ?_)
  refine RD.aload_n (pc := 10) dX5_step_10 rfl ?_
  refine RD.iconst (pc := 11) (v := 2) dX5_step_11 (by decide) ?_
  refine RD.cV1v (pc := 12) dX5_step_12 mlX5_151 rfl (ok2 hi) rfl (c_stopBy K _ hi D 2) (leb rfl) ?_
  refine RD.ret (pc := 15) ⟨rfl, dX5_step_15⟩ ?_
  exact ⟨rfl, rfl⟩

set_option maxRecDepth 20000 in
set_option maxHeartbeats 1000000 in
theorem c_step16 (K : EK) (d : Nat) {i : Nat} (hi : i < 8) (D : DT) {q : Nat} {op x : Int32} (hq : q < 128) (hpl : D (2, i, 0) 3 = nI q) (hop : D (3, i, 0) q &&& 31 = op) (hx : D (3, i, 0) q >>> ((5 : Int32) &&& 31) = x) {D2 : DT} (h16 : op = 16) (hc : CF K mX5_systemCall d [rR (0, 0, 0), rR (2, i, 0), rI x] (up D (2, i, 0) 3 (nI q + 1)) none D2) : CF K mX5_step (d + 1) [rR (0, 0, 0), rR (2, i, 0)] D (none) D2 := by
  refine CF.of [some (rR (0, 0, 0)), some (rR (2, i, 0)), none, none, none] (by decide) (leb rfl) rfl ?_
  refine RD.aload_n (pc := 0) dX5_step_0 rfl ?_
  refine RD.gI (pc := 1) (v := nI q) hpl dX5_step_1 flX5_111 (ok2 hi) rfl rfl ?_
  refine RD.cS1 (pc := 4) dX5_step_4 mlX5_102 (c_isPlace K _ D (nI q)) (leb rfl) ?_
  refine RD.if_ne (pc := 7) 16 dX5_step_7 (by decide) (fun c7 => ?_) (fun c7 => absurd c7 (bIin (by decide) hq))
  refine RD.aload_n (pc := 16) dX5_step_16 rfl ?_
  refine RD.getR (pc := 17) dX5_step_17 flX5_33 (ok2 hi) rfl rfl ?_
  refine RD.aload_n (pc := 20) dX5_step_20 rfl ?_
  refine RD.gI (pc := 21) (v := nI q) hpl dX5_step_21 flX5_111 (ok2 hi) rfl rfl ?_
  refine RD.iL (pc := 24) (n := 128) q (v := D (3, i, 0) q) rfl dX5_step_24 (ok3 hi) rfl rfl hq (by decide) ?_
  refine RD.istore_n (pc := 25) (ls' := [some (rR (0, 0, 0)), some (rR (2, i, 0)), some (rI (D (3, i, 0) q)), none, none]) dX5_step_25 (by decide) rfl ?_
  refine RD.iload_n (pc := 26) dX5_step_26 rfl ?_
  refine RD.bipush (pc := 27) (v := 31) dX5_step_27 (by decide) ?_
  refine RD.iand (pc := 29) dX5_step_29 ?_
  refine RD.eqI hop ?_
  refine RD.istore_n (pc := 30) (ls' := [some (rR (0, 0, 0)), some (rR (2, i, 0)), some (rI (D (3, i, 0) q)), some (rI op), none]) dX5_step_30 (by decide) rfl ?_
  refine RD.iload_n (pc := 31) dX5_step_31 rfl ?_
  refine RD.iconst (pc := 32) (v := 5) dX5_step_32 (by decide) ?_
  refine RD.ishr (pc := 33) dX5_step_33 ?_
  refine RD.eqI hx ?_
  refine RD.istore (pc := 34) (ls' := [some (rR (0, 0, 0)), some (rR (2, i, 0)), some (rI (D (3, i, 0) q)), some (rI op), some (rI x)]) dX5_step_34 (by decide) rfl ?_
  refine RD.aload_n (pc := 36) dX5_step_36 rfl ?_
  refine RD.dup (pc := 37) dX5_step_37 ?_
  refine RD.gI (pc := 38) (v := nI q) hpl dX5_step_38 flX5_111 (ok2 hi) rfl rfl ?_
  refine RD.iconst (pc := 41) (v := 1) dX5_step_41 (by decide) ?_
  refine RD.iadd (pc := 42) dX5_step_42 ?_
  refine RD.putf (pc := 43) dX5_step_43 fpX5_111 (ok2 hi) rfl rfl rfl rfl ?_
  refine RD.iload_n (pc := 46) dX5_step_46 rfl ?_
  refine RD.bipush (pc := 47) (v := 16) dX5_step_47 (by decide) ?_
  refine RD.icmp_ne (pc := 49) 62 dX5_step_49 (by decide) (fun c49 => absurd h16 c49) (fun c49 => ?_)
  refine RD.aload_n (pc := 52) dX5_step_52 rfl ?_
  refine RD.aload_n (pc := 53) dX5_step_53 rfl ?_
  refine RD.iload (pc := 54) dX5_step_54 rfl ?_
  refine RD.cV2v (pc := 56) dX5_step_56 mlX5_154 rfl ok0 rfl hc (leb rfl) ?_
  refine RD.goto (pc := 59) 102 dX5_step_59 (by decide) ?_
  refine RD.ret (pc := 102) ⟨rfl, dX5_step_102⟩ ?_
  exact ⟨rfl, rfl⟩

set_option maxRecDepth 20000 in
set_option maxHeartbeats 1000000 in
theorem c_stepP (K : EK) (d : Nat) {i : Nat} (hi : i < 8) (D : DT) {q : Nat} {op x : Int32} (hq : q < 128) (hpl : D (2, i, 0) 3 = nI q) (hop : D (3, i, 0) q &&& 31 = op) (hx : D (3, i, 0) q >>> ((5 : Int32) &&& 31) = x) {D2 : DT} (h16 : ¬ op = 16) (hwc : wcB op = false) (hc : CF K mX5_plainInstruction d [rR (2, i, 0), rI op, rI x] (up D (2, i, 0) 3 (nI q + 1)) none D2) : CF K mX5_step (d + 1) [rR (0, 0, 0), rR (2, i, 0)] D (none) D2 := by
  refine CF.of [some (rR (0, 0, 0)), some (rR (2, i, 0)), none, none, none] (by decide) (leb rfl) rfl ?_
  refine RD.aload_n (pc := 0) dX5_step_0 rfl ?_
  refine RD.gI (pc := 1) (v := nI q) hpl dX5_step_1 flX5_111 (ok2 hi) rfl rfl ?_
  refine RD.cS1 (pc := 4) dX5_step_4 mlX5_102 (c_isPlace K _ D (nI q)) (leb rfl) ?_
  refine RD.if_ne (pc := 7) 16 dX5_step_7 (by decide) (fun c7 => ?_) (fun c7 => absurd c7 (bIin (by decide) hq))
  refine RD.aload_n (pc := 16) dX5_step_16 rfl ?_
  refine RD.getR (pc := 17) dX5_step_17 flX5_33 (ok2 hi) rfl rfl ?_
  refine RD.aload_n (pc := 20) dX5_step_20 rfl ?_
  refine RD.gI (pc := 21) (v := nI q) hpl dX5_step_21 flX5_111 (ok2 hi) rfl rfl ?_
  refine RD.iL (pc := 24) (n := 128) q (v := D (3, i, 0) q) rfl dX5_step_24 (ok3 hi) rfl rfl hq (by decide) ?_
  refine RD.istore_n (pc := 25) (ls' := [some (rR (0, 0, 0)), some (rR (2, i, 0)), some (rI (D (3, i, 0) q)), none, none]) dX5_step_25 (by decide) rfl ?_
  refine RD.iload_n (pc := 26) dX5_step_26 rfl ?_
  refine RD.bipush (pc := 27) (v := 31) dX5_step_27 (by decide) ?_
  refine RD.iand (pc := 29) dX5_step_29 ?_
  refine RD.eqI hop ?_
  refine RD.istore_n (pc := 30) (ls' := [some (rR (0, 0, 0)), some (rR (2, i, 0)), some (rI (D (3, i, 0) q)), some (rI op), none]) dX5_step_30 (by decide) rfl ?_
  refine RD.iload_n (pc := 31) dX5_step_31 rfl ?_
  refine RD.iconst (pc := 32) (v := 5) dX5_step_32 (by decide) ?_
  refine RD.ishr (pc := 33) dX5_step_33 ?_
  refine RD.eqI hx ?_
  refine RD.istore (pc := 34) (ls' := [some (rR (0, 0, 0)), some (rR (2, i, 0)), some (rI (D (3, i, 0) q)), some (rI op), some (rI x)]) dX5_step_34 (by decide) rfl ?_
  refine RD.aload_n (pc := 36) dX5_step_36 rfl ?_
  refine RD.dup (pc := 37) dX5_step_37 ?_
  refine RD.gI (pc := 38) (v := nI q) hpl dX5_step_38 flX5_111 (ok2 hi) rfl rfl ?_
  refine RD.iconst (pc := 41) (v := 1) dX5_step_41 (by decide) ?_
  refine RD.iadd (pc := 42) dX5_step_42 ?_
  refine RD.putf (pc := 43) dX5_step_43 fpX5_111 (ok2 hi) rfl rfl rfl rfl ?_
  refine RD.iload_n (pc := 46) dX5_step_46 rfl ?_
  refine RD.bipush (pc := 47) (v := 16) dX5_step_47 (by decide) ?_
  refine RD.icmp_ne (pc := 49) 62 dX5_step_49 (by decide) (fun c49 => ?_) (fun c49 => absurd c49 h16)
  refine RD.iload_n (pc := 62) dX5_step_62 rfl ?_
  refine RD.cS1 (pc := 63) dX5_step_63 mlX5_158 (c_wantsCell K _ (up D (2, i, 0) 3 ((nI q) + 1)) op) (leb rfl) ?_
  refine RD.if_ne (pc := 66) 79 dX5_step_66 (by decide) (fun c66 => absurd (by rw [hwc]; rfl) c66) (fun c66 => ?_)
  refine RD.aload_n (pc := 69) dX5_step_69 rfl ?_
  refine RD.iload_n (pc := 70) dX5_step_70 rfl ?_
  refine RD.iload (pc := 71) dX5_step_71 rfl ?_
  refine RD.cS3v (pc := 73) dX5_step_73 mlX5_161 hc (leb rfl) ?_
  refine RD.goto (pc := 76) 102 dX5_step_76 (by decide) ?_
  refine RD.ret (pc := 102) ⟨rfl, dX5_step_102⟩ ?_
  exact ⟨rfl, rfl⟩

set_option maxRecDepth 20000 in
set_option maxHeartbeats 1000000 in
theorem c_stepC (K : EK) (d : Nat) {i : Nat} (hi : i < 8) (D : DT) {q : Nat} {op x : Int32} (hq : q < 128) (hpl : D (2, i, 0) 3 = nI q) (hop : D (3, i, 0) q &&& 31 = op) (hx : D (3, i, 0) q >>> ((5 : Int32) &&& 31) = x) {D2 : DT} (h16 : ¬ op = 16) (hwc : wcB op = true) (hxp : inR x 128 = true) (hc : CF K mX5_cellInstruction d [rR (2, i, 0), rI op, rI x] (up D (2, i, 0) 3 (nI q + 1)) none D2) : CF K mX5_step (d + 1) [rR (0, 0, 0), rR (2, i, 0)] D (none) D2 := by
  refine CF.of [some (rR (0, 0, 0)), some (rR (2, i, 0)), none, none, none] (by decide) (leb rfl) rfl ?_
  refine RD.aload_n (pc := 0) dX5_step_0 rfl ?_
  refine RD.gI (pc := 1) (v := nI q) hpl dX5_step_1 flX5_111 (ok2 hi) rfl rfl ?_
  refine RD.cS1 (pc := 4) dX5_step_4 mlX5_102 (c_isPlace K _ D (nI q)) (leb rfl) ?_
  refine RD.if_ne (pc := 7) 16 dX5_step_7 (by decide) (fun c7 => ?_) (fun c7 => absurd c7 (bIin (by decide) hq))
  refine RD.aload_n (pc := 16) dX5_step_16 rfl ?_
  refine RD.getR (pc := 17) dX5_step_17 flX5_33 (ok2 hi) rfl rfl ?_
  refine RD.aload_n (pc := 20) dX5_step_20 rfl ?_
  refine RD.gI (pc := 21) (v := nI q) hpl dX5_step_21 flX5_111 (ok2 hi) rfl rfl ?_
  refine RD.iL (pc := 24) (n := 128) q (v := D (3, i, 0) q) rfl dX5_step_24 (ok3 hi) rfl rfl hq (by decide) ?_
  refine RD.istore_n (pc := 25) (ls' := [some (rR (0, 0, 0)), some (rR (2, i, 0)), some (rI (D (3, i, 0) q)), none, none]) dX5_step_25 (by decide) rfl ?_
  refine RD.iload_n (pc := 26) dX5_step_26 rfl ?_
  refine RD.bipush (pc := 27) (v := 31) dX5_step_27 (by decide) ?_
  refine RD.iand (pc := 29) dX5_step_29 ?_
  refine RD.eqI hop ?_
  refine RD.istore_n (pc := 30) (ls' := [some (rR (0, 0, 0)), some (rR (2, i, 0)), some (rI (D (3, i, 0) q)), some (rI op), none]) dX5_step_30 (by decide) rfl ?_
  refine RD.iload_n (pc := 31) dX5_step_31 rfl ?_
  refine RD.iconst (pc := 32) (v := 5) dX5_step_32 (by decide) ?_
  refine RD.ishr (pc := 33) dX5_step_33 ?_
  refine RD.eqI hx ?_
  refine RD.istore (pc := 34) (ls' := [some (rR (0, 0, 0)), some (rR (2, i, 0)), some (rI (D (3, i, 0) q)), some (rI op), some (rI x)]) dX5_step_34 (by decide) rfl ?_
  refine RD.aload_n (pc := 36) dX5_step_36 rfl ?_
  refine RD.dup (pc := 37) dX5_step_37 ?_
  refine RD.gI (pc := 38) (v := nI q) hpl dX5_step_38 flX5_111 (ok2 hi) rfl rfl ?_
  refine RD.iconst (pc := 41) (v := 1) dX5_step_41 (by decide) ?_
  refine RD.iadd (pc := 42) dX5_step_42 ?_
  refine RD.putf (pc := 43) dX5_step_43 fpX5_111 (ok2 hi) rfl rfl rfl rfl ?_
  refine RD.iload_n (pc := 46) dX5_step_46 rfl ?_
  refine RD.bipush (pc := 47) (v := 16) dX5_step_47 (by decide) ?_
  refine RD.icmp_ne (pc := 49) 62 dX5_step_49 (by decide) (fun c49 => ?_) (fun c49 => absurd c49 h16)
  refine RD.iload_n (pc := 62) dX5_step_62 rfl ?_
  refine RD.cS1 (pc := 63) dX5_step_63 mlX5_158 (c_wantsCell K _ (up D (2, i, 0) 3 ((nI q) + 1)) op) (leb rfl) ?_
  refine RD.if_ne (pc := 66) 79 dX5_step_66 (by decide) (fun c66 => ?_) (fun c66 => absurd c66 (by rw [hwc]; decide))
  refine RD.iload (pc := 79) dX5_step_79 rfl ?_
  refine RD.cS1 (pc := 81) dX5_step_81 mlX5_102 (c_isPlace K _ (up D (2, i, 0) 3 ((nI q) + 1)) x) (leb rfl) ?_
  refine RD.if_eq (pc := 84) 97 dX5_step_84 (by decide) (fun c84 => absurd c84 (by rw [hxp]; decide)) (fun c84 => ?_)
  refine RD.aload_n (pc := 87) dX5_step_87 rfl ?_
  refine RD.iload_n (pc := 88) dX5_step_88 rfl ?_
  refine RD.iload (pc := 89) dX5_step_89 rfl ?_
  refine RD.cS3v (pc := 91) dX5_step_91 mlX5_165 hc (leb rfl) ?_
  refine RD.goto (pc := 94) 102 dX5_step_94 (by decide) ?_
  refine RD.ret (pc := 102) ⟨rfl, dX5_step_102⟩ ?_
  exact ⟨rfl, rfl⟩

set_option maxRecDepth 20000 in
set_option maxHeartbeats 1000000 in
theorem c_stepT (K : EK) (d : Nat) {i : Nat} (hi : i < 8) (D : DT) {q : Nat} {op x : Int32} (hq : q < 128) (hpl : D (2, i, 0) 3 = nI q) (hop : D (3, i, 0) q &&& 31 = op) (hx : D (3, i, 0) q >>> ((5 : Int32) &&& 31) = x) (h16 : ¬ op = 16) (hwc : wcB op = true) (hxp : inR x 128 = false) : CF K mX5_step (d + 1) [rR (0, 0, 0), rR (2, i, 0)] D (none) (stopF (up D (2, i, 0) 3 (nI q + 1)) i 2) := by
  refine CF.of [some (rR (0, 0, 0)), some (rR (2, i, 0)), none, none, none] (by decide) (leb rfl) rfl ?_
  refine RD.aload_n (pc := 0) dX5_step_0 rfl ?_
  refine RD.gI (pc := 1) (v := nI q) hpl dX5_step_1 flX5_111 (ok2 hi) rfl rfl ?_
  refine RD.cS1 (pc := 4) dX5_step_4 mlX5_102 (c_isPlace K _ D (nI q)) (leb rfl) ?_
  refine RD.if_ne (pc := 7) 16 dX5_step_7 (by decide) (fun c7 => ?_) (fun c7 => absurd c7 (bIin (by decide) hq))
  refine RD.aload_n (pc := 16) dX5_step_16 rfl ?_
  refine RD.getR (pc := 17) dX5_step_17 flX5_33 (ok2 hi) rfl rfl ?_
  refine RD.aload_n (pc := 20) dX5_step_20 rfl ?_
  refine RD.gI (pc := 21) (v := nI q) hpl dX5_step_21 flX5_111 (ok2 hi) rfl rfl ?_
  refine RD.iL (pc := 24) (n := 128) q (v := D (3, i, 0) q) rfl dX5_step_24 (ok3 hi) rfl rfl hq (by decide) ?_
  refine RD.istore_n (pc := 25) (ls' := [some (rR (0, 0, 0)), some (rR (2, i, 0)), some (rI (D (3, i, 0) q)), none, none]) dX5_step_25 (by decide) rfl ?_
  refine RD.iload_n (pc := 26) dX5_step_26 rfl ?_
  refine RD.bipush (pc := 27) (v := 31) dX5_step_27 (by decide) ?_
  refine RD.iand (pc := 29) dX5_step_29 ?_
  refine RD.eqI hop ?_
  refine RD.istore_n (pc := 30) (ls' := [some (rR (0, 0, 0)), some (rR (2, i, 0)), some (rI (D (3, i, 0) q)), some (rI op), none]) dX5_step_30 (by decide) rfl ?_
  refine RD.iload_n (pc := 31) dX5_step_31 rfl ?_
  refine RD.iconst (pc := 32) (v := 5) dX5_step_32 (by decide) ?_
  refine RD.ishr (pc := 33) dX5_step_33 ?_
  refine RD.eqI hx ?_
  refine RD.istore (pc := 34) (ls' := [some (rR (0, 0, 0)), some (rR (2, i, 0)), some (rI (D (3, i, 0) q)), some (rI op), some (rI x)]) dX5_step_34 (by decide) rfl ?_
  refine RD.aload_n (pc := 36) dX5_step_36 rfl ?_
  refine RD.dup (pc := 37) dX5_step_37 ?_
  refine RD.gI (pc := 38) (v := nI q) hpl dX5_step_38 flX5_111 (ok2 hi) rfl rfl ?_
  refine RD.iconst (pc := 41) (v := 1) dX5_step_41 (by decide) ?_
  refine RD.iadd (pc := 42) dX5_step_42 ?_
  refine RD.putf (pc := 43) dX5_step_43 fpX5_111 (ok2 hi) rfl rfl rfl rfl ?_
  refine RD.iload_n (pc := 46) dX5_step_46 rfl ?_
  refine RD.bipush (pc := 47) (v := 16) dX5_step_47 (by decide) ?_
  refine RD.icmp_ne (pc := 49) 62 dX5_step_49 (by decide) (fun c49 => ?_) (fun c49 => absurd c49 h16)
  refine RD.iload_n (pc := 62) dX5_step_62 rfl ?_
  refine RD.cS1 (pc := 63) dX5_step_63 mlX5_158 (c_wantsCell K _ (up D (2, i, 0) 3 ((nI q) + 1)) op) (leb rfl) ?_
  refine RD.if_ne (pc := 66) 79 dX5_step_66 (by decide) (fun c66 => ?_) (fun c66 => absurd c66 (by rw [hwc]; decide))
  refine RD.iload (pc := 79) dX5_step_79 rfl ?_
  refine RD.cS1 (pc := 81) dX5_step_81 mlX5_102 (c_isPlace K _ (up D (2, i, 0) 3 ((nI q) + 1)) x) (leb rfl) ?_
  refine RD.if_eq (pc := 84) 97 dX5_step_84 (by decide) (fun c84 => ?_) (fun c84 => absurd (bIout hxp) c84)
  refine RD.aload_n (pc := 97) dX5_step_97 rfl ?_
  refine RD.iconst (pc := 98) (v := 2) dX5_step_98 (by decide) ?_
  refine RD.cV1v (pc := 99) dX5_step_99 mlX5_151 rfl (ok2 hi) rfl (c_stopBy K _ hi (up D (2, i, 0) 3 ((nI q) + 1)) 2) (leb rfl) ?_
  refine RD.ret (pc := 102) ⟨rfl, dX5_step_102⟩ ?_
  exact ⟨rfl, rfl⟩


theorem i32_msb {x : Int32} : 0 ≤ x ↔ x.toBitVec.msb = false := by
  rw [Int32.le_iff_toInt_le, BitVec.msb_eq_toInt]
  show (0 : Int32).toInt ≤ x.toInt ↔ _
  rw [show (0 : Int32).toInt = 0 by decide, show x.toBitVec.toInt = x.toInt from rfl]
  simp
theorem xor_pos {x y : Int32} (hx : 0 ≤ x) (hy : 0 ≤ y) : 0 ≤ x ^^^ y := by
  rw [i32_msb] at *
  rw [Int32.toBitVec_xor, BitVec.msb_xor, hx, hy]
  rfl

set_option maxRecDepth 20000 in
set_option maxHeartbeats 1000000 in
theorem c_floorMod (K : EK) (d : Nat) (D : DT) {n : Nat} (hn : n < 2 ^ 31) : CF K mJ9_floorMod_7cf53 d [rI (nI n), rI 8] D (some (rI (nI (n % 8)))) D := by
  refine CT.ofF (by decide +kernel) (leb rfl) ?_
  show RD K mJ9_floorMod_7cf53 d 0 [some (rI (nI n)), some (rI 8), none] [] D _
  refine RD.iload_n (pc := 0) dJ9_floorMod_7cf53_0 rfl ?_
  refine RD.iload_n (pc := 1) dJ9_floorMod_7cf53_1 rfl ?_
  refine RD.irem (pc := 2) dJ9_floorMod_7cf53_2 (by decide) ?_
  refine RD.istore_n (pc := 3) (ls' := [some (rI (nI n)), some (rI 8), some (rI ((nI n) - (nI n) / 8 * 8))]) dJ9_floorMod_7cf53_3 (by decide) rfl ?_
  refine RD.iload_n (pc := 4) dJ9_floorMod_7cf53_4 rfl ?_
  refine RD.iload_n (pc := 5) dJ9_floorMod_7cf53_5 rfl ?_
  refine RD.ixor (pc := 6) dJ9_floorMod_7cf53_6 ?_
  refine RD.if_ge (pc := 7) 18 dJ9_floorMod_7cf53_7 (by decide) (fun c7 => ?_) (fun c7 => absurd (xor_pos (nI_pos' hn) (by decide)) c7)
  refine RD.iload_n (pc := 18) dJ9_floorMod_7cf53_18 rfl ?_
  refine RD.ireturn (pc := 19) dJ9_floorMod_7cf53_19 rfl rfl ?_
  exact ⟨by rw [rem8 hn], rfl⟩
