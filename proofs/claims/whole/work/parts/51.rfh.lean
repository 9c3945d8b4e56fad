/-! rules of the growing heap: new, arrays, fields, entries, Object's constructor -/
theorem gget {α : Type} (P S : List α) (k : Nat) : (P ++ S)[P.length + k]? = S[k]? := by
  rw [List.getElem?_append_right (by omega), Nat.add_sub_cancel_left]
theorem gset {α : Type} (P S : List α) (k : Nat) (c : α) : (P ++ S).set (P.length + k) c = P ++ S.set k c := by
  rw [List.set_append_right _ _ (by omega), Nat.add_sub_cancel_left]
theorem gat {α : Type} (S : List α) (o : α) (r : List α) : (S ++ o :: r)[S.length]? = some o := by simp
theorem adr_of {K : EK} {a : AD} (h : a.1 ≠ 16) : adr K a = ek_o K + lay a := by simp [adr, h]
theorem va_S_push {K : EK} {H0 H H1 : Heap} {locs : List Loc} (h : va_S (AA K) H0 H locs) (z : H1.size = H.size + 1) (o : ∀ q, q < H.size → H1[q]? = H[q]?) : va_S (AA K) H0 H1 locs := ⟨Nat.le_trans h.1 (by omega), fun q h1 h2 => (o q (Nat.lt_of_lt_of_le h1 h.1)).trans (h.2.1 q h1 h2), h.2.2⟩
theorem one_P {D : va_G} {cl : List vw_C} {q : Nat × va_E} {H : Heap} (h : va_at D cl q H) : va_P D cl [q] H := by
  intro k x hk
  have hz : k < 1 := (List.getElem?_eq_some_iff.mp hk).1
  rw [show k = 0 by omega] at hk
  cases hk
  exact h
def NLK (own : String) (idx ci n : Nat) (vs : List AV) : Prop := ∃ (C : String) (T : u_T) (ty : Nat → FieldType), cls7[ci]? = some (C, T, n) ∧ (∀ w ∈ u_ws C T n, w ∈ tbg) ∧ (∀ k, k < n → parseFieldDescriptor (T k).2.2.1 = some (ty k)) ∧ Cond.classLink own idx C ∈ tbg ∧ Cond.instantiable C n ∈ tbg ∧ Cond.initialized C ∈ tbg ∧ ∀ (K : EK) (j : Nat), j < n → defaultValue (ty j) = vp_V (vs.map (tv K)) j
/-- a field of the class's own, put in its constructor -/
def FLQ (own : String) (idx ci k : Nat) (ty : FieldType) : Prop := ∃ (T : u_T) (N : Nat) (tyf : Nat → FieldType), cls7[ci]? = some (own, T, N) ∧ k < N ∧ (∀ w ∈ u_ws own T N, w ∈ tbg) ∧ (∀ k, k < N → parseFieldDescriptor (T k).2.2.1 = some (tyf k)) ∧ (∀ a, a < N → ∀ b, b < N → a ≠ b → (T a).2.1 ≠ (T b).2.1) ∧ parseFieldDescriptor (T k).2.2.1 = some ty ∧ (T k).1 = own ∧ Cond.fieldLink own idx (T k).1 (T k).2.1 (T k).2.2.1 ∈ tbg
section RFH
variable {K : EK} {mt : MT} {d N M nc ns pc : Nat} {ls : List (Option AV)} {st : List AV} {P S S' : List CE} {E : Nat → List (Option AV) → List AV → List CE → Prop} {a : AD}
theorem RF.objInit {idx : Nat} (hd : decode mt.2.1 pc = .ok (.invokespecial idx, 3)) (h1 : Cond.methodLink mt.1.cls idx Lib.objectInit ∈ tbg) (h2 : Cond.instanceMethod Lib.objectInit ∈ tbg) (h3 : Cond.code Lib.objectInit ⟨#[0xb1]⟩ 1 none ∈ tbg) (hst : st.length ≤ 2) {G : List CE}
    (kk : RF K mt (d + 1) N M nc ns (pc + 3) ls st G E) : RF K mt (d + 1) N M nc ns pc ls (rR a :: st) G E := by
  intro p e R s m args below meth c H locs la Z hC hH hS hl hf
  have hts := hC.1.2.2.2.2.1
  have hfr : d + 1 ≤ R.frames := hC.1.2.2.2.2.2.2.2.2.2.2.1
  have hlo : 26 * (d + 1) ≤ R.locals := hC.1.2.2.2.2.2.2.2.2.2.2.2.1
  have hroom := lv_room (m := m) (pc := pc) (ls := la) (rest := (rR a :: st).map (tv K)) (st := st.map (tv K)) (by rw [tv_sum]; omega)
  exact W.objInit hC.1.1 hC.1.2.1 hC.1.2.2.2.1 (hts _ h1) (hts _ h2) (hts _ h3) rfl (hl.1.trans hC.1.2.2.1.symm) rfl hd (by omega) (by show _ + _ + 12 ≤ _; omega) (kk p e R s m args below meth c H locs la Z hC hH hS hl hf)
theorem RF.new {idx ci n k : Nat} {vs : List AV} (a : AD) (hd : decode mt.2.1 pc = .ok (.new idx, 3)) (hF : NLK mt.1.cls idx ci n vs) (ha : a.1 ≠ 16) (hk : S.length = k) (hl : lay a = P.length + k) (h1 : nc + 1 ≤ N) (h2 : ns + n ≤ M) (hS' : S ++ [oB ci vs] = S')
    (kk : RF K mt d N M (nc + 1) (ns + n) (pc + 3) ls (rR a :: st) (P ++ S') E) : RF K mt d N M nc ns pc ls st (P ++ S) E := by
  intro p e R s m args below meth c H locs la Z hC hH hS hlk hf
  obtain ⟨C, T, ty, hci, hin, hty, w1, w2, w3, hvs⟩ := hF
  have hts := hC.1.2.2.2.2.1
  have hKn := hC.1.2.2.2.2.2.2.1.1 ci _ hci
  have hsz : H.size = adr K a := by rw [adr_of ha, hl, ← hH.1, List.length_append, hk]
  refine W.newcK hC.1.1 hC.1.2.1 hC.1.2.2.2.1 (hts _ w1) (hts _ w2) (hts _ w3) rfl hd (Nat.le_trans h1 hC.1.2.2.2.2.2.2.2.2.2.2.2.2.1) (Nat.le_trans h2 hC.1.2.2.2.2.2.2.2.2.2.2.2.2.2) hKn.2.1 hsz fun H1 kC hkC e1 z1 o1 => ?_
  refine kk p e R s m args below meth c H1 locs la Z hC ?_ (va_S_push hS (by rw [z1, hsz]) (fun q hq => o1 q (by rw [← hsz]; exact hq))) hlk hf
  rw [← hS', ← List.append_assoc]
  refine hH.push (by rw [z1, hsz]) (fun q hq => o1 q (by rw [← hsz]; exact hq)) ?_
  refine ⟨_, hci, ?_⟩
  rw [hH.1, hsz]
  exact (u_born ty hts hin hKn hkC e1 hty).to (hvs K)
theorem RF.newa {at' : ArrayType} {t n k : Nat} {ty : FieldType} {x : Int32} (a : AD) (hd : decode mt.2.1 pc = .ok (.newarray at', 2)) (hty : newarray.typeOf at' = ty) (hw : Cond.arrayClass ty ∈ tbg) (ht : (tyl K)[t]? = some (ek_c K t, ty)) (hdf : defaultValue ty = .int 0) (hra : ∀ U cA, va_RA U cA ty → U.vm.findClass ("[" ++ ty.toString) = some cA) (ha : a.1 ≠ 16) (hk : S.length = k) (hl : lay a = P.length + k) (hx : ¬ x < 0) (hn : x.toNatClampNeg = n) (hb : n * componentBytes ty ≤ 536870912) (h1 : nc + 1 ≤ N) (h2 : ns + n ≤ M) (hS' : S ++ [zA t n] = S')
    (kk : RF K mt d N M (nc + 1) (ns + n) (pc + 2) ls (rR a :: st) (P ++ S') E) : RF K mt d N M nc ns pc ls (rI x :: st) (P ++ S) E := by
  intro p e R s m args below meth c H locs la Z hC hH hS hlk hf
  have hts := hC.1.2.2.2.2.1
  have hsz : H.size = adr K a := by rw [adr_of ha, hl, ← hH.1, List.length_append, hk]
  subst hty
  refine va_newaK hC.1.1 hC.1.2.1 (hts _ hw) rfl hd rfl hx hn hb (Nat.le_trans h1 hC.1.2.2.2.2.2.2.2.2.2.2.2.2.1) (Nat.le_trans h2 hC.1.2.2.2.2.2.2.2.2.2.2.2.2.2) hsz fun H1 cA e1 z1 o1 hAr hNm => ?_
  have hcA : cA = ek_c K t := Option.some.inj (hNm.symm.trans (hra _ _ (hC.1.2.2.2.2.2.2.1.2 t _ ht).2))
  subst hcA
  refine kk p e R s m args below meth c H1 locs la Z hC ?_ (va_S_push hS (by rw [z1, hsz]) (fun q hq => o1 q (by rw [← hsz]; exact hq))) hlk hf
  rw [← hS', ← List.append_assoc]
  refine hH.push (by rw [z1, hsz]) (fun q hq => o1 q (by rw [← hsz]; exact hq)) ?_
  show H1[ek_o K + (P ++ S).length]? = some (vp_cell _ _)
  rw [hH.1, hsz, e1, hdf]
  rfl
theorem RF.anew {idx t n k : Nat} {C : String} {x : Int32} (a : AD) (hd : decode mt.2.1 pc = .ok (.anewarray idx, 3)) (hw : Cond.classLink mt.1.cls idx C ∈ tbg) (hao : C ∈ aos) (ht : (tyl K)[t]? = some (ek_c K t, .object C)) (ha : a.1 ≠ 16) (hk : S.length = k) (hl : lay a = P.length + k) (hx : ¬ x < 0) (hn : x.toNatClampNeg = n) (hb : n * 4 ≤ 536870912) (h1 : nc + 1 ≤ N) (h2 : ns + n ≤ M) (hS' : S ++ [rA t (List.replicate n none)] = S')
    (kk : RF K mt d N M (nc + 1) (ns + n) (pc + 3) ls (rR a :: st) (P ++ S') E) : RF K mt d N M nc ns pc ls (rI x :: st) (P ++ S) E := by
  intro p e R s m args below meth c H locs la Z hC hH hS hlk hf
  have hts := hC.1.2.2.2.2.1
  have hsz : H.size = adr K a := by rw [adr_of ha, hl, ← hH.1, List.length_append, hk]
  subst hn
  refine W.anew hC.1.1 hC.1.2.1 hC.1.2.2.2.1 (hts _ hw) (va_AO.use (hC.2.2 C hao)) rfl hd rfl hx hb (Nat.le_trans h1 hC.1.2.2.2.2.2.2.2.2.2.2.2.2.1) (Nat.le_trans h2 hC.1.2.2.2.2.2.2.2.2.2.2.2.2.2) fun cA kA comp f1 f2 f3 f4 => ?_
  obtain ⟨kA', comp', -, -, -, g4⟩ := (hC.1.2.2.2.2.2.2.1.2 t _ ht).2
  have hcA : cA = ek_c K t := Option.some.inj (f1.symm.trans g4)
  subst hcA
  generalize hH1 : H.push ({ cls := ek_c K t, slots := Array.replicate x.toNatClampNeg .null, vm := .none } : Cell) = H1
  have z1 : H1.size = H.size + 1 := by rw [← hH1, Array.size_push]
  have e1 : H1[H.size]? = some (arrV (ek_c K t) x.toNatClampNeg (fun _ => .null)) := by rw [← hH1, Array.getElem?_push_size, ← arrV_new]
  have o1 : ∀ q : Nat, q < H.size → H1[q]? = H[q]? := fun q hq => by rw [← hH1, Array.getElem?_push, if_neg (Nat.ne_of_lt hq)]
  have key := kk p e R s m args below meth c H1 locs la Z hC (by
    rw [← hS', ← List.append_assoc]
    refine hH.push z1 o1 ?_
    show H1[ek_o K + (P ++ S).length]? = some (vp_cell _ _)
    rw [hH.1, e1, vp_cell_q, List.length_replicate]
    congr 2
    funext j
    simp [rx, List.getD_eq_getElem?_getD, List.getElem?_replicate]
    split <;> rfl) (va_S_push hS z1 o1) hlk hf
  have hst : (rR a :: st).map (tv K) = Value.ref H.size :: st.map (tv K) := by rw [hsz]; rfl
  rw [hst] at key
  exact key
theorem RF.put {idx ci k k0 : Nat} {vs : List AV} {v : AV} {ty : FieldType} (hd : decode mt.2.1 pc = .ok (.putfield idx, 3)) (hF : FLQ mt.1.cls idx ci k ty) (hnm : mt.1.name = "<init>") (ha : a.1 ≠ 16) (hl : lay a = P.length + k0) (hs : S[k0]? = some (oB ci vs)) (hk : k < vs.length) (hn : narrow ty (tv K v) = tv K v) (hfit : fits ty (tv K v) = true) (hS' : S.set k0 (oB ci (vs.set k v)) = S')
    (kk : RF K mt d N M nc ns (pc + 3) ls st (P ++ S') E) : RF K mt d N M nc ns pc ls (v :: rR a :: st) (P ++ S) E := by
  intro p e R s m args below meth c H locs la Z hC hH hS hlk hf
  have hts := hC.1.2.2.2.2.1
  have hK := hC.1.2.2.2.2.2.2.1
  have hown := hC.1.2.2.2.1
  obtain ⟨T, N', tyf, hc, hkN, hin, hty, hnmT, hpd, hdecl, hlink⟩ := hF
  have hap := va_apart (own := mt.1.cls) hts hin tyf hty hnmT hK hc
  have hadr : adr K a = ek_o K + (P.length + k0) := by rw [adr_of ha, hl]
  have hat := hH.2 (P.length + k0) (oB ci vs) (by rw [gget]; exact hs)
  obtain ⟨r, hr1, cell, q1, q2, q3, q4⟩ := hat
  have hr : r = (mt.1.cls, T, N') := Option.some.inj (hr1.symm.trans hc)
  subst hr
  obtain ⟨hSl, hfc, kC, hkC, hkind⟩ := hK.1 ci _ hc
  obtain ⟨cf, kf, fi, f, hi, hsl⟩ := hSl k hkN
  have hst := (u_facts hfc hkC (u_lays hts hin hkN) hi).1
  have hlt : P.length + k0 < (P ++ S).length := by
    have := (List.getElem?_eq_some_iff.mp hs).1
    rw [List.length_append]; omega
  have hlm : k < (vs.map (tv K)).length := by rw [List.length_map]; exact hk
  have q1' : H[adr K a]? = some cell := by rw [hadr]; exact q1
  have fin : ∀ H' : Heap, H'[adr K a]? = some (cell.setSlot f.slot (tv K v)) → H'.size = H.size → (∀ q, q ≠ adr K a → H'[q]? = H[q]?) → W p (ek_l K) e R s m args below meth c H' (locs ++ [⟨adr K a, f.slot⟩]) nc ns Z (F0 m (pc + 3) la (st.map (tv K))) := by
    intro H' e1 e2 e3
    rw [hsl] at e1 ⊢
    refine kk p e R s m args below meth c H' _ la Z hC ?_ (hS.put e2 e3 (by show ek_o K ≤ adr K a; rw [hadr]; omega)) hlk hf
    rw [← hS', ← gset]
    refine hH.put hlt e2 (fun q hq => e3 q (by rw [hadr]; exact hq)) ⟨_, hc, ?_⟩
    show t_OB (ek_o K + (P.length + k0)) _ _ _ _ (vp_V ((vs.set k v).map (tv K)))
    rw [List.map_set, ← hadr]
    exact t_OB.to (V := updV (vp_V (vs.map (tv K))) k (tv K v)) ⟨_, e1, q2, q3, t_set q4 hap hkN (tv K v)⟩ (fun j _ => vp_updV_set hlm (tv K v) j)
  have hlay := hts _ (hin _ (u_in_lay hkN))
  unfold u_lay at hlay
  by_cases hfin : (T k).2.2.2 = true
  · rw [if_pos hfin] at hlay
    have hcf : m.cls = cf := by
      obtain ⟨_, _, c', _, _, _, -, -, hf', -, -, -, hown2, -⟩ := Cond.laysFinal_spec hlay
      have e1 : c' = cf := by have := hi.symm.trans hf'; simp at this; exact this.1.symm
      rw [hdecl] at hown2
      rw [← e1]; exact Option.some.inj (hown.symm.trans hown2)
    have h6 := u_fits hfc hkC hkind (Or.inr hlay) hi hpd hn hfit
    exact W.putFinK hC.1.1 hC.1.2.1 hown (hts _ hlink) hi hst hcf (hC.2.1 hnm) (by rw [q2]; exact h6) q1' q3 (by rw [hsl]; exact k2_hasslot (q4 k hkN)) rfl rfl hd fin
  · rw [if_neg hfin] at hlay
    have h6 := u_store hfc hkC hkind hlay hi hpd hn hfit
    exact W.putK hC.1.1 hC.1.2.1 (f := f) ⟨hown, hts _ hlink, ⟨_, _, _, hi⟩, hst⟩ (by rw [q2]; exact h6) q1' q3 (by rw [hsl]; exact k2_hasslot (q4 k hkN)) rfl rfl hd fin
theorem RF.get {idx ci k k0 : Nat} {vs : List AV} {v : AV} (hd : decode mt.2.1 pc = .ok (.getfield idx, 3)) (hF : FLK mt.1.cls idx ci k) (ha : a.1 ≠ 16) (hl : lay a = P.length + k0) (hs : S[k0]? = some (oB ci vs)) (hv : vs[k]? = some v)
    (kk : RF K mt d N M nc ns (pc + 3) ls (v :: st) (P ++ S) E) : RF K mt d N M nc ns pc ls (rR a :: st) (P ++ S) E := by
  intro p e R s m args below meth c H locs la Z hC hH hS hlk hf
  obtain ⟨C, T, N', ty, hc, hk, hin, hty, hnm, hlk'⟩ := hF
  have hadr : adr K a = ek_o K + (P.length + k0) := by rw [adr_of ha, hl]
  have hat := one_P (hH.2 (P.length + k0) (oB ci vs) (by rw [gget]; exact hs))
  rw [← hadr] at hat
  have hv' : (vs.map (tv K))[k]? = some (tv K v) := by rw [List.getElem?_map, hv]; rfl
  rcases hlk' with h | ⟨host, h⟩
  · exact va_get (D := ek_D K) (tys := tyl K) hC.1.1 hC.1.2.1 hC.1.2.2.2.2.1 hin hC.1.2.2.2.1 hC.1.2.2.2.2.2.2.1 hat 0 rfl hc k hk (hC.1.2.2.2.2.1 _ h) (fun _ z => z) hv' hd (kk p e R s m args below meth c H locs la Z hC hH hS hlk hf)
  · exact va_getN (D := ek_D K) (tys := tyl K) hC.1.1 hC.1.2.1 hC.1.2.2.2.2.1 hin hC.1.2.2.2.1 hC.1.2.2.2.2.2.2.1 hat 0 rfl hc k hk (nst_use h (hC.1.2.2.2.2.2.1 _ h)) (fun _ z => z) hv' hd (kk p e R s m args below meth c H locs la Z hC hH hS hlk hf)
theorem RF.aast {t ci k0 kb j : Nat} {r : vw_C} {xs : List (Option AD)} {vs : List AV} {b : AD} {i : Int32} (hd : decode mt.2.1 pc = .ok (.aastore, 1)) (ha : a.1 ≠ 16) (hl : lay a = P.length + k0) (hs : S[k0]? = some (rA t xs)) (ht : (tyl K)[t]? = some (ek_c K t, .object r.1)) (hc : cls7[ci]? = some r) (hb : b.1 ≠ 16) (hlb : lay b = P.length + kb) (hsb : S[kb]? = some (oB ci vs)) (hi : i = nI j) (hj : j < xs.length) (hn : xs.length < 2 ^ 31) (hS' : S.set k0 (rA t (xs.set j (some b))) = S')
    (kk : RF K mt d N M nc ns (pc + 1) ls st (P ++ S') E) : RF K mt d N M nc ns pc ls (rR b :: rI i :: rR a :: st) (P ++ S) E := by
  intro p e R s m args below meth c H locs la Z hC hH hS hlk hf
  have hK := hC.1.2.2.2.2.2.2.1
  have hadr : adr K a = ek_o K + (P.length + k0) := by rw [adr_of ha, hl]
  have hadb : adr K b = ek_o K + (P.length + kb) := by rw [adr_of hb, hlb]
  have hat := hH.2 (P.length + k0) (rA t xs) (by rw [gget]; exact hs)
  have hbt := hH.2 (P.length + kb) (oB ci vs) (by rw [gget]; exact hsb)
  rw [← hadr] at hat
  rw [← hadb] at hbt
  obtain ⟨r', hr', cellV, g1, g2, g3, -⟩ := hbt
  have hcls := (hK.1 ci r hc).2
  obtain ⟨kA, comp, k1, k2, k3, -⟩ := (hK.2 t _ ht).2
  have hcomp : comp = (ek_D K).1 ci := Option.some.inj (k3.symm.trans hcls.1)
  subst hcomp
  obtain ⟨kC, hkC, -⟩ := hcls.2
  subst hi
  have hin : vp_in (nI j) xs.length := vp_in_nI hj hn
  have h0 : ¬ nI j < 0 := fun q => hin (Or.inl q)
  have hcl : (nI j).toNatClampNeg = j := nI_clamp (by omega)
  have hlt : P.length + k0 < (P ++ S).length := by
    have := (List.getElem?_eq_some_iff.mp hs).1
    rw [List.length_append]; omega
  refine W.aast (v := adr K b) hC.1.1 hC.1.2.1 hat (fun q h => by cases h) (fun h => by cases h) k1 k2 rfl hkC ⟨h0, by show _ < (arrV _ _ _).slots.size; rw [arrV_size, hcl]; exact hj⟩ g1 (fun q h => by rw [g3] at h; cases h) (by rw [g2]; exact hkC) (by rw [g2]; exact va_assign hcls) rfl rfl hd fun H1 e1 z oq => ?_
  refine kk p e R s m args below meth c H1 _ la Z hC ?_ (hS.put z oq (by show ek_o K ≤ adr K a; rw [hadr]; omega)) hlk hf
  rw [← hS', ← gset]
  refine hH.put hlt z (fun q hq => oq q (by rw [hadr]; exact hq)) ?_
  show H1[ek_o K + (P.length + k0)]? = some (vp_cell _ _)
  rw [← hadr, e1, hcl]
  dsimp only
  rw [vp_cell_q, vp_cell_q, arrV_store, List.length_set]
  congr 2
  funext q
  by_cases hq : q = j
  · subst hq
    simp [updV, rx, List.getD_eq_getElem?_getD, hj, va_rf]
  · simp [updV, rx, List.getD_eq_getElem?_getD, hq, Ne.symm hq, List.getElem?_set_ne]
end RFH
