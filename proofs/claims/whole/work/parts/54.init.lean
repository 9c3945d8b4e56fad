/-! blocks of cells that the constructors leave -/
def fm (f : Nat → List CE) : Nat → List CE
  | 0 => []
  | n + 1 => fm f n ++ f n
theorem fm_len {f : Nat → List CE} {c : Nat} (h : ∀ k, (f k).length = c) : ∀ n, (fm f n).length = c * n
  | 0 => rfl
  | n + 1 => by rw [fm, List.length_append, fm_len h n, h n, Nat.mul_succ]
def pt (g : Nat → AD) (j : Nat) : List (Option AD) := (List.range 8).map (fun k => if k < j then some (g k) else none)
theorem pt_set {g : Nat → AD} : ∀ {j : Nat}, j < 8 → (pt g j).set j (some (g j)) = pt g (j + 1)
  | 0, _ => rfl
  | 1, _ => rfl
  | 2, _ => rfl
  | 3, _ => rfl
  | 4, _ => rfl
  | 5, _ => rfl
  | 6, _ => rfl
  | 7, _ => rfl
  | n + 8, h => absurd h (by omega)
theorem pt_len (g : Nat → AD) (j : Nat) : (pt g j).length = 8 := by simp [pt]
def tsB (i j : Nat) : List CE := [oB 4 [rR (5, i, j), rI 0], zA 0 8]
def msB (i j : Nat) : List CE := [oB 0 [rR (4, i, 3 + j), rI 0, rI 0, rI (-1)]] ++ tsB i (3 + j)
def quB (i : Nat) : List CE := oB 1 [rR (7, i, 0), rI 0, rI 0] :: rA 3 (pt (fun q => (8, i, q)) 8) :: fm (msB i) 8
def fiB (i j : Nat) : List CE := oB 3 [rR (4, i, 11 + j), rR (13, i, j), rI 0] :: (tsB i (11 + j) ++ [zA 0 8])
def slP (i j : Nat) : List CE := oB 2 [rI (nI i), rR (3, i, 0), rI 0, rI 0, rI 0, rI 0, rI 0, rR (4, i, 0), rR (4, i, 1), rR (4, i, 2), rR (6, i, 0), rR (9, i, 0), rR (10, i, 0), rR (11, i, 0), rI 0] :: zA 0 128 :: (tsB i 0 ++ (tsB i 1 ++ (tsB i 2 ++ (quB i ++ [rA 4 (pt (fun q => (12, i, q)) j), zA 0 64, zA 0 64]))))
def slB (i : Nat) : List CE := slP i 8 ++ fm (fiB i) 8
def keB : List CE := (oB 5 [rR (1, 0, 0), rR (4, 8, 0), rI 0] :: rA 2 (pt (fun q => (2, q, 0)) 8) :: fm slB 8) ++ tsB 8 0
def moB : List CE := oB 6 [rR (15, 0, 0), rR (15, 1, 0), rR (15, 2, 0), rR (15, 3, 0), rR (15, 4, 0), rR (15, 5, 0), rR (15, 6, 0), rR (15, 7, 0), rR (15, 8, 0), rR (15, 9, 0), rR (15, 10, 0), rR (15, 11, 0), rR (15, 12, 0), rR (15, 13, 0), rR (15, 14, 0), rR (15, 15, 0), rR (15, 16, 0), rI 0] :: [zA 0 1024, zA 0 8, zA 0 8, zA 0 8, zA 0 8, zA 0 8, zA 1 35072, zA 1 4096, zA 1 64, zA 0 512, zA 0 8, zA 0 64, zA 0 64, zA 0 64, zA 0 8, zA 0 512, zA 0 512]
theorem lay5 (i j : Nat) : lay (5, i, j) = lay (4, i, j) + 1 := by
  simp only [lay]
  split
  · rfl
  · split
    · omega
    · split <;> omega
theorem lay4m {i j : Nat} (hi : i < 8) (hj : j < 8) : lay (4, i, 3 + j) = lay (8, i, j) + 1 := by
  simp only [lay]
  rw [if_neg (by omega), if_neg (by omega), if_pos (by omega)]
  omega
theorem lay4f {i j : Nat} (hi : i < 8) (hj : j < 8) : lay (4, i, 11 + j) = lay (12, i, j) + 1 := by
  simp only [lay]
  rw [if_neg (by omega), if_neg (by omega), if_neg (by omega)]
  omega
theorem lay4s {i j : Nat} (hi : i < 8) (hj : j < 3) : lay (4, i, j) = lay (2, i, 0) + (2 + 2 * j) := by
  simp only [lay]
  rw [if_neg (by omega), if_pos (by omega)]
  omega
theorem msB_len (i k : Nat) : (msB i k).length = 3 := rfl
theorem fiB_len (i k : Nat) : (fiB i k).length = 4 := rfl
theorem slB_len (i : Nat) : (slB i).length = 69 := rfl
theorem low8 : ∀ j, j < 8 → ¬ (8 : Int32) ≤ nI j := by decide +kernel
theorem nxt8 : ∀ j, j < 8 → nI j + Int32.ofInt 1 = nI (j + 1) := by decide +kernel
theorem i_ts (K : EK) (d : Nat) {i j : Nat} (P : List CE) (hP : P.length = lay (4, i, j)) : CI K mX4_init (d + 1) 1 8 [rR (4, i, j)] (P ++ [oB 4 dfX4]) (P ++ tsB i j) := by
  refine CI.of [some (rR (4, i, j))] (by decide) (Nat.le_of_ble_eq_true rfl) rfl rfl ?_
  refine RF.aload_n dX4_init_0 rfl ?_
  refine RF.objInit dX4_init_1 olX4 obI obC (Nat.le_of_ble_eq_true rfl) ?_
  refine RF.aload_n dX4_init_4 rfl ?_
  refine RF.bipush (v := 8) dX4_init_5 rfl ?_
  refine RF.newa (S' := oB 4 [rN, rI 0] :: ([] ++ [zA 0 8])) (5, i, j) dX4_init_7 rfl ac_int (t := 0) rfl rfl (fun _ _ h => h) (by simp) (k := 1) rfl (by rw [hP]; exact lay5 i j) (by decide) (n := 8) (by decide) (by decide) (by omega) (by omega) rfl ?_
  refine RF.put (S' := oB 4 [rR (5, i, j), rI 0] :: ([] ++ [zA 0 8])) dX4_init_9 fqX4_9 rfl (by simp) (k0 := 0) hP.symm rfl (by simp) rfl rfl rfl ?_
  refine RF.aload_n dX4_init_12 rfl ?_
  refine RF.iconst (v := 0) dX4_init_13 rfl ?_
  refine RF.put (S' := oB 4 [rR (5, i, j), rI 0] :: ([] ++ [zA 0 8])) dX4_init_14 fqX4_15 rfl (by simp) (k0 := 0) hP.symm rfl (by simp) rfl rfl rfl ?_
  exact RF.stop ⟨rfl, dX4_init_17, rfl⟩ (by omega) (by omega)
theorem i_ms (K : EK) (d : Nat) {i j : Nat} (hi : i < 8) (hj : j < 8) (P : List CE) (hP : P.length = lay (8, i, j)) : CI K mX0_init (d + 2) 2 10 [rR (8, i, j)] (P ++ [oB 0 dfX0]) (P ++ msB i j) := by
  refine CI.of [some (rR (8, i, j))] (by decide) (Nat.le_of_ble_eq_true rfl) rfl rfl ?_
  refine RF.aload_n dX0_init_0 rfl ?_
  refine RF.objInit dX0_init_1 olX0 obI obC (Nat.le_of_ble_eq_true rfl) ?_
  refine RF.aload_n dX0_init_4 rfl ?_
  refine RF.new (S' := oB 0 [rN, rI 0, rI 0, rI 0] :: ([] ++ [oB 4 dfX4])) (4, i, 3 + j) dX0_init_5 nlX0_9 (by simp) (k := 1) rfl (by rw [hP]; exact lay4m hi hj) (by omega) (by omega) rfl ?_
  refine RF.dup dX0_init_8 ?_
  refine RF.call0 (S := oB 0 [rN, rI 0, rI 0, rI 0] :: ([])) (S2 := oB 0 [rN, rI 0, rI 0, rI 0] :: ([] ++ tsB i (3 + j))) dX0_init_9 ilX0_11 (k := 1) rfl (by rw [hP]; exact lay4m hi hj) (i_ts K d) (Nat.le_of_ble_eq_true rfl) (by omega) (by omega) rfl rfl ?_
  refine RF.put (S' := oB 0 [rR (4, i, 3 + j), rI 0, rI 0, rI 0] :: ([] ++ tsB i (3 + j))) dX0_init_12 fqX0_12 rfl (by simp) (k0 := 0) hP.symm rfl (by simp) rfl rfl rfl ?_
  refine RF.aload_n dX0_init_15 rfl ?_
  refine RF.iconst (v := 0) dX0_init_16 rfl ?_
  refine RF.put (S' := oB 0 [rR (4, i, 3 + j), rI 0, rI 0, rI 0] :: ([] ++ tsB i (3 + j))) dX0_init_17 fqX0_18 rfl (by simp) (k0 := 0) hP.symm rfl (by simp) rfl rfl rfl ?_
  refine RF.aload_n dX0_init_20 rfl ?_
  refine RF.iconst (v := 0) dX0_init_21 rfl ?_
  refine RF.put (S' := oB 0 [rR (4, i, 3 + j), rI 0, rI 0, rI 0] :: ([] ++ tsB i (3 + j))) dX0_init_22 fqX0_22 rfl (by simp) (k0 := 0) hP.symm rfl (by simp) rfl rfl rfl ?_
  refine RF.aload_n dX0_init_25 rfl ?_
  refine RF.iconst (v := (-1)) dX0_init_26 rfl ?_
  refine RF.put (S' := oB 0 [rR (4, i, 3 + j), rI 0, rI 0, rI (-1)] :: ([] ++ tsB i (3 + j))) dX0_init_27 fqX0_25 rfl (by simp) (k0 := 0) hP.symm rfl (by simp) rfl rfl rfl ?_
  exact RF.stop ⟨rfl, dX0_init_30, rfl⟩ (by omega) (by omega)
theorem i_fi (K : EK) (d : Nat) {i j : Nat} (hi : i < 8) (hj : j < 8) (P : List CE) (hP : P.length = lay (12, i, j)) : CI K mX3_init (d + 2) 3 18 [rR (12, i, j)] (P ++ [oB 3 dfX3]) (P ++ fiB i j) := by
  refine CI.of [some (rR (12, i, j))] (by decide) (Nat.le_of_ble_eq_true rfl) rfl rfl ?_
  refine RF.aload_n dX3_init_0 rfl ?_
  refine RF.objInit dX3_init_1 olX3 obI obC (Nat.le_of_ble_eq_true rfl) ?_
  refine RF.aload_n dX3_init_4 rfl ?_
  refine RF.new (S' := oB 3 [rN, rN, rI 0] :: ([] ++ [oB 4 dfX4])) (4, i, 11 + j) dX3_init_5 nlX3_9 (by simp) (k := 1) rfl (by rw [hP]; exact lay4f hi hj) (by omega) (by omega) rfl ?_
  refine RF.dup dX3_init_8 ?_
  refine RF.call0 (S := oB 3 [rN, rN, rI 0] :: ([])) (S2 := oB 3 [rN, rN, rI 0] :: ([] ++ tsB i (11 + j))) dX3_init_9 ilX3_11 (k := 1) rfl (by rw [hP]; exact lay4f hi hj) (i_ts K d) (Nat.le_of_ble_eq_true rfl) (by omega) (by omega) rfl rfl ?_
  refine RF.put (S' := oB 3 [rR (4, i, 11 + j), rN, rI 0] :: ([] ++ tsB i (11 + j))) dX3_init_12 fqX3_12 rfl (by simp) (k0 := 0) hP.symm rfl (by simp) rfl rfl rfl ?_
  refine RF.aload_n dX3_init_15 rfl ?_
  refine RF.bipush (v := 8) dX3_init_16 rfl ?_
  refine RF.newa (S' := oB 3 [rR (4, i, 11 + j), rN, rI 0] :: ([] ++ tsB i (11 + j) ++ [zA 0 8])) (13, i, j) dX3_init_18 rfl ac_int (t := 0) rfl rfl (fun _ _ h => h) (by simp) (k := 3) rfl (by rw [hP]; simp only [lay] <;> omega) (by decide) (n := 8) (by decide) (by decide) (by omega) (by omega) rfl ?_
  refine RF.put (S' := oB 3 [rR (4, i, 11 + j), rR (13, i, j), rI 0] :: ([] ++ tsB i (11 + j) ++ [zA 0 8])) dX3_init_20 fqX3_18 rfl (by simp) (k0 := 0) hP.symm rfl (by simp) rfl rfl rfl ?_
  refine RF.aload_n dX3_init_23 rfl ?_
  refine RF.iconst (v := 0) dX3_init_24 rfl ?_
  refine RF.put (S' := oB 3 [rR (4, i, 11 + j), rR (13, i, j), rI 0] :: ([] ++ tsB i (11 + j) ++ [zA 0 8])) dX3_init_25 fqX3_22 rfl (by simp) (k0 := 0) hP.symm rfl (by simp) rfl rfl rfl ?_
  exact RF.stop ⟨rfl, dX3_init_28, rfl⟩ (by omega) (by omega)
abbrev quS (i j : Nat) : List CE := oB 1 [rR (7, i, 0), rI 0, rI 0] :: rA 3 (pt (fun q => (8, i, q)) j) :: fm (msB i) j
theorem l_X1 (K : EK) (d : Nat) {i : Nat} (hi : i < 8) (P : List CE) (hP : P.length = lay (6, i, 0)) : ∀ n j, j + n = 8 → RF K mX1_init (d + 3) 25 120 (1 + 3 * j) (8 + 14 * j) 25 [some (rR (6, i, 0)), some (rI (nI j))] [] (P ++ quS i j) (EI mX1_init (P ++ quB i))
  | 0, j, h => by
    have hj : j = 8 := by omega
    subst hj
    refine RF.iload_n dX1_init_25 rfl ?_
    refine RF.bipush (v := 8) dX1_init_26 rfl ?_
    refine RF.icmp_ge 50 dX1_init_28 rfl (fun _ => ?_) (fun hh => absurd (show (8 : Int32) ≤ nI 8 by decide) hh)
    exact RF.stop ⟨rfl, dX1_init_50, rfl⟩ (by omega) (by omega)
  | n + 1, j, h => by
    have hj : j < 8 := by omega
    refine RF.iload_n dX1_init_25 rfl ?_
    refine RF.bipush (v := 8) dX1_init_26 rfl ?_
    refine RF.icmp_ge 50 dX1_init_28 rfl (fun hh => absurd hh (low8 j hj)) (fun _ => ?_)
    refine RF.aload_n dX1_init_31 rfl ?_
    refine RF.get dX1_init_32 flX1_11 (by simp) (k0 := 0) hP.symm rfl rfl ?_
    refine RF.iload_n dX1_init_35 rfl ?_
    have hk : (quS i j).length = 2 + 3 * j := by simp [fm_len (msB_len i)]; omega
    have hla : lay (8, i, j) = P.length + (2 + 3 * j) := (by rw [hP]; simp only [lay] <;> omega)
    refine RF.new (8, i, j) dX1_init_36 nlX1_9 (by simp) hk hla (by omega) (by omega) rfl ?_
    refine RF.dup dX1_init_39 ?_
    refine RF.call0 dX1_init_40 ilX1_24 hk hla (i_ms K d hi hj) (Nat.le_of_ble_eq_true rfl) (by omega) (by omega) rfl rfl ?_
    refine RF.aast (S' := quS i (j + 1)) dX1_init_43 (by simp) (k0 := 1) (by rw [hP]; simp only [lay] <;> omega) rfl rfl (ci := 0) rfl (by simp) (hla.trans (by rw [← hk])) (gat _ _ _) rfl (by rw [pt_len]; exact hj) (by rw [pt_len]; decide) (by rw [pt_set (g := fun q => (8, i, q)) hj]; rfl) ?_
    refine RF.iinc dX1_init_44 rfl (nxt8 j hj) (by decide) rfl ?_
    refine RF.goto 25 dX1_init_47 rfl ?_
    refine RF.eqN (by omega) (by omega) (l_X1 K d hi P hP n (j + 1) (by omega))
theorem i_qu (K : EK) (d : Nat) {i : Nat} (hi : i < 8) (P : List CE) (hP : P.length = lay (6, i, 0)) : CI K mX1_init (d + 3) 25 120 [rR (6, i, 0)] (P ++ [oB 1 dfX1]) (P ++ quB i) := by
  refine CI.of [some (rR (6, i, 0)), none] (by decide) (Nat.le_of_ble_eq_true rfl) rfl rfl ?_
  refine RF.aload_n dX1_init_0 rfl ?_
  refine RF.objInit dX1_init_1 olX1 obI obC (Nat.le_of_ble_eq_true rfl) ?_
  refine RF.aload_n dX1_init_4 rfl ?_
  refine RF.bipush (v := 8) dX1_init_5 rfl ?_
  refine RF.anew (S' := oB 1 [rN, rI 0, rI 0] :: ([] ++ [rA 3 (pt (fun q => (8, i, q)) 0)])) (7, i, 0) dX1_init_7 clX1_9 (by decide) (t := 3) rfl (by simp) (k := 1) rfl (by rw [hP]; simp only [lay] <;> omega) (by decide) (n := 8) (by decide) (by decide) (by omega) (by omega) rfl ?_
  refine RF.put (S' := oB 1 [rR (7, i, 0), rI 0, rI 0] :: ([] ++ [rA 3 (pt (fun q => (8, i, q)) 0)])) dX1_init_10 fqX1_11 rfl (by simp) (k0 := 0) hP.symm rfl (by simp) rfl rfl rfl ?_
  refine RF.aload_n dX1_init_13 rfl ?_
  refine RF.iconst (v := 0) dX1_init_14 rfl ?_
  refine RF.put (S' := oB 1 [rR (7, i, 0), rI 0, rI 0] :: ([] ++ [rA 3 (pt (fun q => (8, i, q)) 0)])) dX1_init_15 fqX1_17 rfl (by simp) (k0 := 0) hP.symm rfl (by simp) rfl rfl rfl ?_
  refine RF.aload_n dX1_init_18 rfl ?_
  refine RF.iconst (v := 0) dX1_init_19 rfl ?_
  refine RF.put (S' := oB 1 [rR (7, i, 0), rI 0, rI 0] :: ([] ++ [rA 3 (pt (fun q => (8, i, q)) 0)])) dX1_init_20 fqX1_21 rfl (by simp) (k0 := 0) hP.symm rfl (by simp) rfl rfl rfl ?_
  refine RF.iconst (v := 0) dX1_init_23 rfl ?_
  refine RF.istore_n dX1_init_24 (by decide) rfl ?_
  exact l_X1 K d hi P hP 8 0 rfl
abbrev slS (i j : Nat) : List CE := slP i j ++ fm (fiB i) j
theorem slP_len (i j : Nat) : (slP i j).length = 37 := rfl
theorem l_X2 (K : EK) (d : Nat) {i : Nat} (hi : i < 8) (P : List CE) (hP : P.length = lay (2, i, 0)) : ∀ n j, j + n = 8 → RF K mX2_init (d + 4) 68 585 (36 + 4 * j) (417 + 21 * j) 119 [some (rR (2, i, 0)), some (rI (nI i)), some (rI (nI j))] [] (P ++ slS i j) (EI mX2_init (P ++ slB i))
  | 0, j, h => by
    have hj : j = 8 := by omega
    subst hj
    refine RF.iload_n dX2_init_119 rfl ?_
    refine RF.bipush (v := 8) dX2_init_120 rfl ?_
    refine RF.icmp_ge 144 dX2_init_122 rfl (fun _ => ?_) (fun hh => absurd (show (8 : Int32) ≤ nI 8 by decide) hh)
    exact RF.stop ⟨rfl, dX2_init_144, rfl⟩ (by omega) (by omega)
  | n + 1, j, h => by
    have hj : j < 8 := by omega
    refine RF.iload_n dX2_init_119 rfl ?_
    refine RF.bipush (v := 8) dX2_init_120 rfl ?_
    refine RF.icmp_ge 144 dX2_init_122 rfl (fun hh => absurd hh (low8 j hj)) (fun _ => ?_)
    refine RF.aload_n dX2_init_125 rfl ?_
    refine RF.get dX2_init_126 flX2_53 (by simp) (k0 := 0) hP.symm rfl rfl ?_
    refine RF.iload_n dX2_init_129 rfl ?_
    have hk : (slS i j).length = 37 + 4 * j := by rw [List.length_append, slP_len, fm_len (fiB_len i)]
    have hla : lay (12, i, j) = P.length + (37 + 4 * j) := (by rw [hP]; simp only [lay] <;> omega)
    refine RF.new (12, i, j) dX2_init_130 nlX2_51 (by simp) hk hla (by omega) (by omega) rfl ?_
    refine RF.dup dX2_init_133 ?_
    refine RF.call0 dX2_init_134 ilX2_69 hk hla (i_fi K (d + 1) hi hj) (Nat.le_of_ble_eq_true rfl) (by omega) (by omega) rfl rfl ?_
    refine RF.aast (S' := slS i (j + 1)) dX2_init_137 (by simp) (k0 := 34) (by rw [hP]; simp only [lay] <;> omega) rfl rfl (ci := 3) rfl (by simp) (hla.trans (by rw [← hk])) (gat _ _ _) rfl (by rw [pt_len]; exact hj) (by rw [pt_len]; decide) (by rw [pt_set (g := fun q => (12, i, q)) hj]; rfl) ?_
    refine RF.iinc dX2_init_138 rfl (nxt8 j hj) (by decide) rfl ?_
    refine RF.goto 119 dX2_init_141 rfl ?_
    refine RF.eqN (by omega) (by omega) (l_X2 K d hi P hP n (j + 1) (by omega))
set_option maxRecDepth 100000 in
theorem i_sl (K : EK) (d : Nat) {i : Nat} (hi : i < 8) (P : List CE) (hP : P.length = lay (2, i, 0)) : CI K mX2_init (d + 4) 68 585 [rR (2, i, 0), rI (nI i)] (P ++ [oB 2 dfX2]) (P ++ slB i) := by
  refine CI.of [some (rR (2, i, 0)), some (rI (nI i)), none] (by decide) (Nat.le_of_ble_eq_true rfl) rfl rfl ?_
  refine RF.aload_n dX2_init_0 rfl ?_
  refine RF.objInit dX2_init_1 olX2 obI obC (Nat.le_of_ble_eq_true rfl) ?_
  refine RF.aload_n dX2_init_4 rfl ?_
  refine RF.sipush (v := 128) dX2_init_5 rfl ?_
  refine RF.newa (S' := oB 2 [rI 0, rN, rI 0, rI 0, rI 0, rI 0, rI 0, rN, rN, rN, rN, rN, rN, rN, rI 0] :: ([] ++ [zA 0 128])) (3, i, 0) dX2_init_8 rfl ac_int (t := 0) rfl rfl (fun _ _ h => h) (by simp) (k := 1) rfl (by rw [hP]; simp only [lay] <;> omega) (by decide) (n := 128) (by decide) (by decide) (by omega) (by omega) rfl ?_
  refine RF.put (S' := oB 2 [rI 0, rR (3, i, 0), rI 0, rI 0, rI 0, rI 0, rI 0, rN, rN, rN, rN, rN, rN, rN, rI 0] :: ([] ++ [zA 0 128])) dX2_init_10 fqX2_9 rfl (by simp) (k0 := 0) hP.symm rfl (by simp) rfl rfl rfl ?_
  refine RF.aload_n dX2_init_13 rfl ?_
  refine RF.iconst (v := 0) dX2_init_14 rfl ?_
  refine RF.put (S' := oB 2 [rI 0, rR (3, i, 0), rI 0, rI 0, rI 0, rI 0, rI 0, rN, rN, rN, rN, rN, rN, rN, rI 0] :: ([] ++ [zA 0 128])) dX2_init_15 fqX2_15 rfl (by simp) (k0 := 0) hP.symm rfl (by simp) rfl rfl rfl ?_
  refine RF.aload_n dX2_init_18 rfl ?_
  refine RF.iconst (v := 0) dX2_init_19 rfl ?_
  refine RF.put (S' := oB 2 [rI 0, rR (3, i, 0), rI 0, rI 0, rI 0, rI 0, rI 0, rN, rN, rN, rN, rN, rN, rN, rI 0] :: ([] ++ [zA 0 128])) dX2_init_20 fqX2_19 rfl (by simp) (k0 := 0) hP.symm rfl (by simp) rfl rfl rfl ?_
  refine RF.aload_n dX2_init_23 rfl ?_
  refine RF.iconst (v := 0) dX2_init_24 rfl ?_
  refine RF.put (S' := oB 2 [rI 0, rR (3, i, 0), rI 0, rI 0, rI 0, rI 0, rI 0, rN, rN, rN, rN, rN, rN, rN, rI 0] :: ([] ++ [zA 0 128])) dX2_init_25 fqX2_22 rfl (by simp) (k0 := 0) hP.symm rfl (by simp) rfl rfl rfl ?_
  refine RF.aload_n dX2_init_28 rfl ?_
  refine RF.iconst (v := 0) dX2_init_29 rfl ?_
  refine RF.put (S' := oB 2 [rI 0, rR (3, i, 0), rI 0, rI 0, rI 0, rI 0, rI 0, rN, rN, rN, rN, rN, rN, rN, rI 0] :: ([] ++ [zA 0 128])) dX2_init_30 fqX2_25 rfl (by simp) (k0 := 0) hP.symm rfl (by simp) rfl rfl rfl ?_
  refine RF.aload_n dX2_init_33 rfl ?_
  refine RF.iconst (v := 0) dX2_init_34 rfl ?_
  refine RF.put (S' := oB 2 [rI 0, rR (3, i, 0), rI 0, rI 0, rI 0, rI 0, rI 0, rN, rN, rN, rN, rN, rN, rN, rI 0] :: ([] ++ [zA 0 128])) dX2_init_35 fqX2_28 rfl (by simp) (k0 := 0) hP.symm rfl (by simp) rfl rfl rfl ?_
  refine RF.aload_n dX2_init_38 rfl ?_
  refine RF.new (S' := oB 2 [rI 0, rR (3, i, 0), rI 0, rI 0, rI 0, rI 0, rI 0, rN, rN, rN, rN, rN, rN, rN, rI 0] :: ([] ++ [zA 0 128] ++ [oB 4 dfX4])) (4, i, 0) dX2_init_39 nlX2_31 (by simp) (k := 2) rfl (by rw [hP, lay4s hi (by decide)]) (by omega) (by omega) rfl ?_
  refine RF.dup dX2_init_42 ?_
  refine RF.call0 (S := oB 2 [rI 0, rR (3, i, 0), rI 0, rI 0, rI 0, rI 0, rI 0, rN, rN, rN, rN, rN, rN, rN, rI 0] :: ([] ++ [zA 0 128])) (S2 := oB 2 [rI 0, rR (3, i, 0), rI 0, rI 0, rI 0, rI 0, rI 0, rN, rN, rN, rN, rN, rN, rN, rI 0] :: ([] ++ [zA 0 128] ++ tsB i 0)) dX2_init_43 ilX2_33 (k := 2) rfl (by rw [hP, lay4s hi (by decide)]) (i_ts K (d + 2)) (Nat.le_of_ble_eq_true rfl) (by omega) (by omega) rfl rfl ?_
  refine RF.put (S' := oB 2 [rI 0, rR (3, i, 0), rI 0, rI 0, rI 0, rI 0, rI 0, rR (4, i, 0), rN, rN, rN, rN, rN, rN, rI 0] :: ([] ++ [zA 0 128] ++ tsB i 0)) dX2_init_46 fqX2_34 rfl (by simp) (k0 := 0) hP.symm rfl (by simp) rfl rfl rfl ?_
  refine RF.aload_n dX2_init_49 rfl ?_
  refine RF.new (S' := oB 2 [rI 0, rR (3, i, 0), rI 0, rI 0, rI 0, rI 0, rI 0, rR (4, i, 0), rN, rN, rN, rN, rN, rN, rI 0] :: ([] ++ [zA 0 128] ++ tsB i 0 ++ [oB 4 dfX4])) (4, i, 1) dX2_init_50 nlX2_31 (by simp) (k := 4) rfl (by rw [hP, lay4s hi (by decide)]) (by omega) (by omega) rfl ?_
  refine RF.dup dX2_init_53 ?_
  refine RF.call0 (S := oB 2 [rI 0, rR (3, i, 0), rI 0, rI 0, rI 0, rI 0, rI 0, rR (4, i, 0), rN, rN, rN, rN, rN, rN, rI 0] :: ([] ++ [zA 0 128] ++ tsB i 0)) (S2 := oB 2 [rI 0, rR (3, i, 0), rI 0, rI 0, rI 0, rI 0, rI 0, rR (4, i, 0), rN, rN, rN, rN, rN, rN, rI 0] :: ([] ++ [zA 0 128] ++ tsB i 0 ++ tsB i 1)) dX2_init_54 ilX2_33 (k := 4) rfl (by rw [hP, lay4s hi (by decide)]) (i_ts K (d + 2)) (Nat.le_of_ble_eq_true rfl) (by omega) (by omega) rfl rfl ?_
  refine RF.put (S' := oB 2 [rI 0, rR (3, i, 0), rI 0, rI 0, rI 0, rI 0, rI 0, rR (4, i, 0), rR (4, i, 1), rN, rN, rN, rN, rN, rI 0] :: ([] ++ [zA 0 128] ++ tsB i 0 ++ tsB i 1)) dX2_init_57 fqX2_38 rfl (by simp) (k0 := 0) hP.symm rfl (by simp) rfl rfl rfl ?_
  refine RF.aload_n dX2_init_60 rfl ?_
  refine RF.new (S' := oB 2 [rI 0, rR (3, i, 0), rI 0, rI 0, rI 0, rI 0, rI 0, rR (4, i, 0), rR (4, i, 1), rN, rN, rN, rN, rN, rI 0] :: ([] ++ [zA 0 128] ++ tsB i 0 ++ tsB i 1 ++ [oB 4 dfX4])) (4, i, 2) dX2_init_61 nlX2_31 (by simp) (k := 6) rfl (by rw [hP, lay4s hi (by decide)]) (by omega) (by omega) rfl ?_
  refine RF.dup dX2_init_64 ?_
  refine RF.call0 (S := oB 2 [rI 0, rR (3, i, 0), rI 0, rI 0, rI 0, rI 0, rI 0, rR (4, i, 0), rR (4, i, 1), rN, rN, rN, rN, rN, rI 0] :: ([] ++ [zA 0 128] ++ tsB i 0 ++ tsB i 1)) (S2 := oB 2 [rI 0, rR (3, i, 0), rI 0, rI 0, rI 0, rI 0, rI 0, rR (4, i, 0), rR (4, i, 1), rN, rN, rN, rN, rN, rI 0] :: ([] ++ [zA 0 128] ++ tsB i 0 ++ tsB i 1 ++ tsB i 2)) dX2_init_65 ilX2_33 (k := 6) rfl (by rw [hP, lay4s hi (by decide)]) (i_ts K (d + 2)) (Nat.le_of_ble_eq_true rfl) (by omega) (by omega) rfl rfl ?_
  refine RF.put (S' := oB 2 [rI 0, rR (3, i, 0), rI 0, rI 0, rI 0, rI 0, rI 0, rR (4, i, 0), rR (4, i, 1), rR (4, i, 2), rN, rN, rN, rN, rI 0] :: ([] ++ [zA 0 128] ++ tsB i 0 ++ tsB i 1 ++ tsB i 2)) dX2_init_68 fqX2_41 rfl (by simp) (k0 := 0) hP.symm rfl (by simp) rfl rfl rfl ?_
  refine RF.aload_n dX2_init_71 rfl ?_
  refine RF.new (S' := oB 2 [rI 0, rR (3, i, 0), rI 0, rI 0, rI 0, rI 0, rI 0, rR (4, i, 0), rR (4, i, 1), rR (4, i, 2), rN, rN, rN, rN, rI 0] :: ([] ++ [zA 0 128] ++ tsB i 0 ++ tsB i 1 ++ tsB i 2 ++ [oB 1 dfX1])) (6, i, 0) dX2_init_72 nlX2_44 (by simp) (k := 8) rfl (by rw [hP]; simp only [lay] <;> omega) (by omega) (by omega) rfl ?_
  refine RF.dup dX2_init_75 ?_
  refine RF.call0 (S := oB 2 [rI 0, rR (3, i, 0), rI 0, rI 0, rI 0, rI 0, rI 0, rR (4, i, 0), rR (4, i, 1), rR (4, i, 2), rN, rN, rN, rN, rI 0] :: ([] ++ [zA 0 128] ++ tsB i 0 ++ tsB i 1 ++ tsB i 2)) (S2 := oB 2 [rI 0, rR (3, i, 0), rI 0, rI 0, rI 0, rI 0, rI 0, rR (4, i, 0), rR (4, i, 1), rR (4, i, 2), rN, rN, rN, rN, rI 0] :: ([] ++ [zA 0 128] ++ tsB i 0 ++ tsB i 1 ++ tsB i 2 ++ quB i)) dX2_init_76 ilX2_46 (k := 8) rfl (by rw [hP]; simp only [lay] <;> omega) (i_qu K d hi) (Nat.le_of_ble_eq_true rfl) (by omega) (by omega) rfl rfl ?_
  refine RF.put (S' := oB 2 [rI 0, rR (3, i, 0), rI 0, rI 0, rI 0, rI 0, rI 0, rR (4, i, 0), rR (4, i, 1), rR (4, i, 2), rR (6, i, 0), rN, rN, rN, rI 0] :: ([] ++ [zA 0 128] ++ tsB i 0 ++ tsB i 1 ++ tsB i 2 ++ quB i)) dX2_init_79 fqX2_47 rfl (by simp) (k0 := 0) hP.symm rfl (by simp) rfl rfl rfl ?_
  refine RF.aload_n dX2_init_82 rfl ?_
  refine RF.bipush (v := 8) dX2_init_83 rfl ?_
  refine RF.anew (S' := oB 2 [rI 0, rR (3, i, 0), rI 0, rI 0, rI 0, rI 0, rI 0, rR (4, i, 0), rR (4, i, 1), rR (4, i, 2), rR (6, i, 0), rN, rN, rN, rI 0] :: ([] ++ [zA 0 128] ++ tsB i 0 ++ tsB i 1 ++ tsB i 2 ++ quB i ++ [rA 4 (pt (fun q => (12, i, q)) 0)])) (9, i, 0) dX2_init_85 clX2_51 (by decide) (t := 4) rfl (by simp) (k := 34) rfl (by rw [hP]; simp only [lay] <;> omega) (by decide) (n := 8) (by decide) (by decide) (by omega) (by omega) rfl ?_
  refine RF.put (S' := oB 2 [rI 0, rR (3, i, 0), rI 0, rI 0, rI 0, rI 0, rI 0, rR (4, i, 0), rR (4, i, 1), rR (4, i, 2), rR (6, i, 0), rR (9, i, 0), rN, rN, rI 0] :: ([] ++ [zA 0 128] ++ tsB i 0 ++ tsB i 1 ++ tsB i 2 ++ quB i ++ [rA 4 (pt (fun q => (12, i, q)) 0)])) dX2_init_88 fqX2_53 rfl (by simp) (k0 := 0) hP.symm rfl (by simp) rfl rfl rfl ?_
  refine RF.aload_n dX2_init_91 rfl ?_
  refine RF.bipush (v := 64) dX2_init_92 rfl ?_
  refine RF.newa (S' := oB 2 [rI 0, rR (3, i, 0), rI 0, rI 0, rI 0, rI 0, rI 0, rR (4, i, 0), rR (4, i, 1), rR (4, i, 2), rR (6, i, 0), rR (9, i, 0), rN, rN, rI 0] :: ([] ++ [zA 0 128] ++ tsB i 0 ++ tsB i 1 ++ tsB i 2 ++ quB i ++ [rA 4 (pt (fun q => (12, i, q)) 0)] ++ [zA 0 64])) (10, i, 0) dX2_init_94 rfl ac_int (t := 0) rfl rfl (fun _ _ h => h) (by simp) (k := 35) rfl (by rw [hP]; simp only [lay] <;> omega) (by decide) (n := 64) (by decide) (by decide) (by omega) (by omega) rfl ?_
  refine RF.put (S' := oB 2 [rI 0, rR (3, i, 0), rI 0, rI 0, rI 0, rI 0, rI 0, rR (4, i, 0), rR (4, i, 1), rR (4, i, 2), rR (6, i, 0), rR (9, i, 0), rR (10, i, 0), rN, rI 0] :: ([] ++ [zA 0 128] ++ tsB i 0 ++ tsB i 1 ++ tsB i 2 ++ quB i ++ [rA 4 (pt (fun q => (12, i, q)) 0)] ++ [zA 0 64])) dX2_init_96 fqX2_57 rfl (by simp) (k0 := 0) hP.symm rfl (by simp) rfl rfl rfl ?_
  refine RF.aload_n dX2_init_99 rfl ?_
  refine RF.bipush (v := 64) dX2_init_100 rfl ?_
  refine RF.newa (S' := oB 2 [rI 0, rR (3, i, 0), rI 0, rI 0, rI 0, rI 0, rI 0, rR (4, i, 0), rR (4, i, 1), rR (4, i, 2), rR (6, i, 0), rR (9, i, 0), rR (10, i, 0), rN, rI 0] :: ([] ++ [zA 0 128] ++ tsB i 0 ++ tsB i 1 ++ tsB i 2 ++ quB i ++ [rA 4 (pt (fun q => (12, i, q)) 0)] ++ [zA 0 64] ++ [zA 0 64])) (11, i, 0) dX2_init_102 rfl ac_int (t := 0) rfl rfl (fun _ _ h => h) (by simp) (k := 36) rfl (by rw [hP]; simp only [lay] <;> omega) (by decide) (n := 64) (by decide) (by decide) (by omega) (by omega) rfl ?_
  refine RF.put (S' := oB 2 [rI 0, rR (3, i, 0), rI 0, rI 0, rI 0, rI 0, rI 0, rR (4, i, 0), rR (4, i, 1), rR (4, i, 2), rR (6, i, 0), rR (9, i, 0), rR (10, i, 0), rR (11, i, 0), rI 0] :: ([] ++ [zA 0 128] ++ tsB i 0 ++ tsB i 1 ++ tsB i 2 ++ quB i ++ [rA 4 (pt (fun q => (12, i, q)) 0)] ++ [zA 0 64] ++ [zA 0 64])) dX2_init_104 fqX2_60 rfl (by simp) (k0 := 0) hP.symm rfl (by simp) rfl rfl rfl ?_
  refine RF.aload_n dX2_init_107 rfl ?_
  refine RF.iconst (v := 0) dX2_init_108 rfl ?_
  refine RF.put (S' := oB 2 [rI 0, rR (3, i, 0), rI 0, rI 0, rI 0, rI 0, rI 0, rR (4, i, 0), rR (4, i, 1), rR (4, i, 2), rR (6, i, 0), rR (9, i, 0), rR (10, i, 0), rR (11, i, 0), rI 0] :: ([] ++ [zA 0 128] ++ tsB i 0 ++ tsB i 1 ++ tsB i 2 ++ quB i ++ [rA 4 (pt (fun q => (12, i, q)) 0)] ++ [zA 0 64] ++ [zA 0 64])) dX2_init_109 fqX2_63 rfl (by simp) (k0 := 0) hP.symm rfl (by simp) rfl rfl rfl ?_
  refine RF.aload_n dX2_init_112 rfl ?_
  refine RF.iload_n dX2_init_113 rfl ?_
  refine RF.put (S' := oB 2 [rI (nI i), rR (3, i, 0), rI 0, rI 0, rI 0, rI 0, rI 0, rR (4, i, 0), rR (4, i, 1), rR (4, i, 2), rR (6, i, 0), rR (9, i, 0), rR (10, i, 0), rR (11, i, 0), rI 0] :: ([] ++ [zA 0 128] ++ tsB i 0 ++ tsB i 1 ++ tsB i 2 ++ quB i ++ [rA 4 (pt (fun q => (12, i, q)) 0)] ++ [zA 0 64] ++ [zA 0 64])) dX2_init_114 fqX2_66 rfl (by simp) (k0 := 0) hP.symm rfl (by simp) rfl rfl rfl ?_
  refine RF.iconst (v := 0) dX2_init_117 rfl ?_
  refine RF.istore_n dX2_init_118 (by decide) rfl ?_
  exact l_X2 K d hi P hP 8 0 rfl
abbrev keS (j : Nat) : List CE := oB 5 [rR (1, 0, 0), rN, rI 0] :: rA 2 (pt (fun q => (2, q, 0)) j) :: fm slB j
theorem l_X5 (K : EK) (d : Nat) (P : List CE) (hP : P.length = lay (0, 0, 0)) : ∀ n j, j + n = 8 → RF K mX5_init (d + 5) 555 4818 (1 + 69 * j) (8 + 600 * j) 15 [some (rR (0, 0, 0)), some (rI (nI j))] [] (P ++ keS j) (EI mX5_init (P ++ keB))
  | 0, j, h => by
    have hj : j = 8 := by omega
    subst hj
    refine RF.iload_n dX5_init_15 rfl ?_
    refine RF.bipush (v := 8) dX5_init_16 rfl ?_
    refine RF.icmp_ge 41 dX5_init_18 rfl (fun _ => ?_) (fun hh => absurd (show (8 : Int32) ≤ nI 8 by decide) hh)
    refine RF.aload_n dX5_init_41 rfl ?_
    refine RF.new (S' := oB 5 [rR (1, 0, 0), rN, rI 0] :: (rA 2 (pt (fun q => (2, q, 0)) 8) :: fm slB 8 ++ [oB 4 dfX4])) (4, 8, 0) dX5_init_42 nlX5_18 (by simp) (k := 554) (by simp [fm_len slB_len]) (by rw [hP]; decide) (by omega) (by omega) rfl ?_
    refine RF.dup dX5_init_45 ?_
    refine RF.call0 (S := oB 5 [rR (1, 0, 0), rN, rI 0] :: (rA 2 (pt (fun q => (2, q, 0)) 8) :: fm slB 8)) (S2 := oB 5 [rR (1, 0, 0), rN, rI 0] :: (rA 2 (pt (fun q => (2, q, 0)) 8) :: fm slB 8 ++ tsB 8 0)) dX5_init_46 ilX5_20 (k := 554) (by simp [fm_len slB_len]) (by rw [hP]; decide) (i_ts K (d + 3)) (Nat.le_of_ble_eq_true rfl) (by omega) (by omega) rfl rfl ?_
    refine RF.put (S' := oB 5 [rR (1, 0, 0), rR (4, 8, 0), rI 0] :: (rA 2 (pt (fun q => (2, q, 0)) 8) :: fm slB 8 ++ tsB 8 0)) dX5_init_49 fqX5_21 rfl (by simp) (k0 := 0) hP.symm rfl (by simp) rfl rfl rfl ?_
    refine RF.aload_n dX5_init_52 rfl ?_
    refine RF.iconst (v := 0) dX5_init_53 rfl ?_
    refine RF.put (S' := oB 5 [rR (1, 0, 0), rR (4, 8, 0), rI 0] :: (rA 2 (pt (fun q => (2, q, 0)) 8) :: fm slB 8 ++ tsB 8 0)) dX5_init_54 fqX5_25 rfl (by simp) (k0 := 0) hP.symm rfl (by simp) rfl rfl rfl ?_
    exact RF.stop ⟨rfl, dX5_init_57, rfl⟩ (by omega) (by omega)
  | n + 1, j, h => by
    have hj : j < 8 := by omega
    refine RF.iload_n dX5_init_15 rfl ?_
    refine RF.bipush (v := 8) dX5_init_16 rfl ?_
    refine RF.icmp_ge 41 dX5_init_18 rfl (fun hh => absurd hh (low8 j hj)) (fun _ => ?_)
    refine RF.aload_n dX5_init_21 rfl ?_
    refine RF.get dX5_init_22 flX5_11 (by simp) (k0 := 0) hP.symm rfl rfl ?_
    refine RF.iload_n dX5_init_25 rfl ?_
    have hk : (keS j).length = 2 + 69 * j := by simp [fm_len slB_len]; omega
    have hla : lay (2, j, 0) = P.length + (2 + 69 * j) := (by rw [hP]; simp only [lay] <;> omega)
    refine RF.new (2, j, 0) dX5_init_26 nlX5_9 (by simp) hk hla (by omega) (by omega) rfl ?_
    refine RF.dup dX5_init_29 ?_
    refine RF.iload_n dX5_init_30 rfl ?_
    refine RF.call1 dX5_init_31 ilX5_15 hk hla (i_sl K d hj) (Nat.le_of_ble_eq_true rfl) (by omega) (by omega) rfl rfl ?_
    refine RF.aast (S' := keS (j + 1)) dX5_init_34 (by simp) (k0 := 1) (by rw [hP]; simp only [lay] <;> omega) rfl rfl (ci := 2) rfl (by simp) (hla.trans (by rw [← hk])) (gat _ _ _) rfl (by rw [pt_len]; exact hj) (by rw [pt_len]; decide) (by rw [pt_set (g := fun q => (2, q, 0)) hj]; rfl) ?_
    refine RF.iinc dX5_init_35 rfl (nxt8 j hj) (by decide) rfl ?_
    refine RF.goto 15 dX5_init_38 rfl ?_
    refine RF.eqN (by omega) (by omega) (l_X5 K d P hP n (j + 1) (by omega))
theorem i_ke (K : EK) (d : Nat) (P : List CE) (hP : P.length = lay (0, 0, 0)) : CI K mX5_init (d + 5) 555 4818 [rR (0, 0, 0)] (P ++ [oB 5 dfX5]) (P ++ keB) := by
  refine CI.of [some (rR (0, 0, 0)), none] (by decide) (Nat.le_of_ble_eq_true rfl) rfl rfl ?_
  refine RF.aload_n dX5_init_0 rfl ?_
  refine RF.objInit dX5_init_1 olX5 obI obC (Nat.le_of_ble_eq_true rfl) ?_
  refine RF.aload_n dX5_init_4 rfl ?_
  refine RF.bipush (v := 8) dX5_init_5 rfl ?_
  refine RF.anew (S' := oB 5 [rN, rN, rI 0] :: ([] ++ [rA 2 (pt (fun q => (2, q, 0)) 0)])) (1, 0, 0) dX5_init_7 clX5_9 (by decide) (t := 2) rfl (by simp) (k := 1) rfl (by rw [hP]; simp only [lay] <;> omega) (by decide) (n := 8) (by decide) (by decide) (by omega) (by omega) rfl ?_
  refine RF.put (S' := oB 5 [rR (1, 0, 0), rN, rI 0] :: ([] ++ [rA 2 (pt (fun q => (2, q, 0)) 0)])) dX5_init_10 fqX5_11 rfl (by simp) (k0 := 0) hP.symm rfl (by simp) rfl rfl rfl ?_
  refine RF.iconst (v := 0) dX5_init_13 rfl ?_
  refine RF.istore_n dX5_init_14 (by decide) rfl ?_
  exact l_X5 K d P hP 8 0 rfl
set_option maxRecDepth 100000 in
theorem i_mo (K : EK) (d : Nat) (P : List CE) (hP : P.length = lay (14, 0, 0)) : CI K mX6_init (d + 1) 17 42040 [rR (14, 0, 0)] (P ++ [oB 6 dfX6]) (P ++ moB) := by
  refine CI.of [some (rR (14, 0, 0))] (by decide) (Nat.le_of_ble_eq_true rfl) rfl rfl ?_
  refine RF.aload_n dX6_init_0 rfl ?_
  refine RF.objInit dX6_init_1 olX6 obI obC (Nat.le_of_ble_eq_true rfl) ?_
  refine RF.aload_n dX6_init_4 rfl ?_
  refine RF.sipush (v := 1024) dX6_init_5 rfl ?_
  refine RF.newa (S' := oB 6 [rN, rN, rN, rN, rN, rN, rN, rN, rN, rN, rN, rN, rN, rN, rN, rN, rN, rI 0] :: ([] ++ [zA 0 1024])) (15, 0, 0) dX6_init_8 rfl ac_int (t := 0) rfl rfl (fun _ _ h => h) (by simp) (k := 1) rfl (by rw [hP]; rfl) (by decide) (n := 1024) (by decide) (by decide) (by omega) (by omega) rfl ?_
  refine RF.put (S' := oB 6 [rR (15, 0, 0), rN, rN, rN, rN, rN, rN, rN, rN, rN, rN, rN, rN, rN, rN, rN, rN, rI 0] :: ([] ++ [zA 0 1024])) dX6_init_10 fqX6_9 rfl (by simp) (k0 := 0) hP.symm rfl (by simp) rfl rfl rfl ?_
  refine RF.aload_n dX6_init_13 rfl ?_
  refine RF.bipush (v := 8) dX6_init_14 rfl ?_
  refine RF.newa (S' := oB 6 [rR (15, 0, 0), rN, rN, rN, rN, rN, rN, rN, rN, rN, rN, rN, rN, rN, rN, rN, rN, rI 0] :: ([] ++ [zA 0 1024] ++ [zA 0 8])) (15, 1, 0) dX6_init_16 rfl ac_int (t := 0) rfl rfl (fun _ _ h => h) (by simp) (k := 2) rfl (by rw [hP]; rfl) (by decide) (n := 8) (by decide) (by decide) (by omega) (by omega) rfl ?_
  refine RF.put (S' := oB 6 [rR (15, 0, 0), rR (15, 1, 0), rN, rN, rN, rN, rN, rN, rN, rN, rN, rN, rN, rN, rN, rN, rN, rI 0] :: ([] ++ [zA 0 1024] ++ [zA 0 8])) dX6_init_18 fqX6_13 rfl (by simp) (k0 := 0) hP.symm rfl (by simp) rfl rfl rfl ?_
  refine RF.aload_n dX6_init_21 rfl ?_
  refine RF.bipush (v := 8) dX6_init_22 rfl ?_
  refine RF.newa (S' := oB 6 [rR (15, 0, 0), rR (15, 1, 0), rN, rN, rN, rN, rN, rN, rN, rN, rN, rN, rN, rN, rN, rN, rN, rI 0] :: ([] ++ [zA 0 1024] ++ [zA 0 8] ++ [zA 0 8])) (15, 2, 0) dX6_init_24 rfl ac_int (t := 0) rfl rfl (fun _ _ h => h) (by simp) (k := 3) rfl (by rw [hP]; rfl) (by decide) (n := 8) (by decide) (by decide) (by omega) (by omega) rfl ?_
  refine RF.put (S' := oB 6 [rR (15, 0, 0), rR (15, 1, 0), rR (15, 2, 0), rN, rN, rN, rN, rN, rN, rN, rN, rN, rN, rN, rN, rN, rN, rI 0] :: ([] ++ [zA 0 1024] ++ [zA 0 8] ++ [zA 0 8])) dX6_init_26 fqX6_16 rfl (by simp) (k0 := 0) hP.symm rfl (by simp) rfl rfl rfl ?_
  refine RF.aload_n dX6_init_29 rfl ?_
  refine RF.bipush (v := 8) dX6_init_30 rfl ?_
  refine RF.newa (S' := oB 6 [rR (15, 0, 0), rR (15, 1, 0), rR (15, 2, 0), rN, rN, rN, rN, rN, rN, rN, rN, rN, rN, rN, rN, rN, rN, rI 0] :: ([] ++ [zA 0 1024] ++ [zA 0 8] ++ [zA 0 8] ++ [zA 0 8])) (15, 3, 0) dX6_init_32 rfl ac_int (t := 0) rfl rfl (fun _ _ h => h) (by simp) (k := 4) rfl (by rw [hP]; rfl) (by decide) (n := 8) (by decide) (by decide) (by omega) (by omega) rfl ?_
  refine RF.put (S' := oB 6 [rR (15, 0, 0), rR (15, 1, 0), rR (15, 2, 0), rR (15, 3, 0), rN, rN, rN, rN, rN, rN, rN, rN, rN, rN, rN, rN, rN, rI 0] :: ([] ++ [zA 0 1024] ++ [zA 0 8] ++ [zA 0 8] ++ [zA 0 8])) dX6_init_34 fqX6_19 rfl (by simp) (k0 := 0) hP.symm rfl (by simp) rfl rfl rfl ?_
  refine RF.aload_n dX6_init_37 rfl ?_
  refine RF.bipush (v := 8) dX6_init_38 rfl ?_
  refine RF.newa (S' := oB 6 [rR (15, 0, 0), rR (15, 1, 0), rR (15, 2, 0), rR (15, 3, 0), rN, rN, rN, rN, rN, rN, rN, rN, rN, rN, rN, rN, rN, rI 0] :: ([] ++ [zA 0 1024] ++ [zA 0 8] ++ [zA 0 8] ++ [zA 0 8] ++ [zA 0 8])) (15, 4, 0) dX6_init_40 rfl ac_int (t := 0) rfl rfl (fun _ _ h => h) (by simp) (k := 5) rfl (by rw [hP]; rfl) (by decide) (n := 8) (by decide) (by decide) (by omega) (by omega) rfl ?_
  refine RF.put (S' := oB 6 [rR (15, 0, 0), rR (15, 1, 0), rR (15, 2, 0), rR (15, 3, 0), rR (15, 4, 0), rN, rN, rN, rN, rN, rN, rN, rN, rN, rN, rN, rN, rI 0] :: ([] ++ [zA 0 1024] ++ [zA 0 8] ++ [zA 0 8] ++ [zA 0 8] ++ [zA 0 8])) dX6_init_42 fqX6_22 rfl (by simp) (k0 := 0) hP.symm rfl (by simp) rfl rfl rfl ?_
  refine RF.aload_n dX6_init_45 rfl ?_
  refine RF.bipush (v := 8) dX6_init_46 rfl ?_
  refine RF.newa (S' := oB 6 [rR (15, 0, 0), rR (15, 1, 0), rR (15, 2, 0), rR (15, 3, 0), rR (15, 4, 0), rN, rN, rN, rN, rN, rN, rN, rN, rN, rN, rN, rN, rI 0] :: ([] ++ [zA 0 1024] ++ [zA 0 8] ++ [zA 0 8] ++ [zA 0 8] ++ [zA 0 8] ++ [zA 0 8])) (15, 5, 0) dX6_init_48 rfl ac_int (t := 0) rfl rfl (fun _ _ h => h) (by simp) (k := 6) rfl (by rw [hP]; rfl) (by decide) (n := 8) (by decide) (by decide) (by omega) (by omega) rfl ?_
  refine RF.put (S' := oB 6 [rR (15, 0, 0), rR (15, 1, 0), rR (15, 2, 0), rR (15, 3, 0), rR (15, 4, 0), rR (15, 5, 0), rN, rN, rN, rN, rN, rN, rN, rN, rN, rN, rN, rI 0] :: ([] ++ [zA 0 1024] ++ [zA 0 8] ++ [zA 0 8] ++ [zA 0 8] ++ [zA 0 8] ++ [zA 0 8])) dX6_init_50 fqX6_25 rfl (by simp) (k0 := 0) hP.symm rfl (by simp) rfl rfl rfl ?_
  refine RF.aload_n dX6_init_53 rfl ?_
  refine RF.ldc dX6_init_54 lcX6_28 ?_
  refine RF.newa (S' := oB 6 [rR (15, 0, 0), rR (15, 1, 0), rR (15, 2, 0), rR (15, 3, 0), rR (15, 4, 0), rR (15, 5, 0), rN, rN, rN, rN, rN, rN, rN, rN, rN, rN, rN, rI 0] :: ([] ++ [zA 0 1024] ++ [zA 0 8] ++ [zA 0 8] ++ [zA 0 8] ++ [zA 0 8] ++ [zA 0 8] ++ [zA 1 35072])) (15, 6, 0) dX6_init_56 rfl ac_boolean (t := 1) rfl rfl (fun _ _ h => h) (by simp) (k := 7) rfl (by rw [hP]; rfl) (by decide) (n := 35072) (by decide) (by decide) (by omega) (by omega) rfl ?_
  refine RF.put (S' := oB 6 [rR (15, 0, 0), rR (15, 1, 0), rR (15, 2, 0), rR (15, 3, 0), rR (15, 4, 0), rR (15, 5, 0), rR (15, 6, 0), rN, rN, rN, rN, rN, rN, rN, rN, rN, rN, rI 0] :: ([] ++ [zA 0 1024] ++ [zA 0 8] ++ [zA 0 8] ++ [zA 0 8] ++ [zA 0 8] ++ [zA 0 8] ++ [zA 1 35072])) dX6_init_58 fqX6_29 rfl (by simp) (k0 := 0) hP.symm rfl (by simp) rfl rfl rfl ?_
  refine RF.aload_n dX6_init_61 rfl ?_
  refine RF.sipush (v := 4096) dX6_init_62 rfl ?_
  refine RF.newa (S' := oB 6 [rR (15, 0, 0), rR (15, 1, 0), rR (15, 2, 0), rR (15, 3, 0), rR (15, 4, 0), rR (15, 5, 0), rR (15, 6, 0), rN, rN, rN, rN, rN, rN, rN, rN, rN, rN, rI 0] :: ([] ++ [zA 0 1024] ++ [zA 0 8] ++ [zA 0 8] ++ [zA 0 8] ++ [zA 0 8] ++ [zA 0 8] ++ [zA 1 35072] ++ [zA 1 4096])) (15, 7, 0) dX6_init_65 rfl ac_boolean (t := 1) rfl rfl (fun _ _ h => h) (by simp) (k := 8) rfl (by rw [hP]; rfl) (by decide) (n := 4096) (by decide) (by decide) (by omega) (by omega) rfl ?_
  refine RF.put (S' := oB 6 [rR (15, 0, 0), rR (15, 1, 0), rR (15, 2, 0), rR (15, 3, 0), rR (15, 4, 0), rR (15, 5, 0), rR (15, 6, 0), rR (15, 7, 0), rN, rN, rN, rN, rN, rN, rN, rN, rN, rI 0] :: ([] ++ [zA 0 1024] ++ [zA 0 8] ++ [zA 0 8] ++ [zA 0 8] ++ [zA 0 8] ++ [zA 0 8] ++ [zA 1 35072] ++ [zA 1 4096])) dX6_init_67 fqX6_33 rfl (by simp) (k0 := 0) hP.symm rfl (by simp) rfl rfl rfl ?_
  refine RF.aload_n dX6_init_70 rfl ?_
  refine RF.bipush (v := 64) dX6_init_71 rfl ?_
  refine RF.newa (S' := oB 6 [rR (15, 0, 0), rR (15, 1, 0), rR (15, 2, 0), rR (15, 3, 0), rR (15, 4, 0), rR (15, 5, 0), rR (15, 6, 0), rR (15, 7, 0), rN, rN, rN, rN, rN, rN, rN, rN, rN, rI 0] :: ([] ++ [zA 0 1024] ++ [zA 0 8] ++ [zA 0 8] ++ [zA 0 8] ++ [zA 0 8] ++ [zA 0 8] ++ [zA 1 35072] ++ [zA 1 4096] ++ [zA 1 64])) (15, 8, 0) dX6_init_73 rfl ac_boolean (t := 1) rfl rfl (fun _ _ h => h) (by simp) (k := 9) rfl (by rw [hP]; rfl) (by decide) (n := 64) (by decide) (by decide) (by omega) (by omega) rfl ?_
  refine RF.put (S' := oB 6 [rR (15, 0, 0), rR (15, 1, 0), rR (15, 2, 0), rR (15, 3, 0), rR (15, 4, 0), rR (15, 5, 0), rR (15, 6, 0), rR (15, 7, 0), rR (15, 8, 0), rN, rN, rN, rN, rN, rN, rN, rN, rI 0] :: ([] ++ [zA 0 1024] ++ [zA 0 8] ++ [zA 0 8] ++ [zA 0 8] ++ [zA 0 8] ++ [zA 0 8] ++ [zA 1 35072] ++ [zA 1 4096] ++ [zA 1 64])) dX6_init_75 fqX6_36 rfl (by simp) (k0 := 0) hP.symm rfl (by simp) rfl rfl rfl ?_
  refine RF.aload_n dX6_init_78 rfl ?_
  refine RF.sipush (v := 512) dX6_init_79 rfl ?_
  refine RF.newa (S' := oB 6 [rR (15, 0, 0), rR (15, 1, 0), rR (15, 2, 0), rR (15, 3, 0), rR (15, 4, 0), rR (15, 5, 0), rR (15, 6, 0), rR (15, 7, 0), rR (15, 8, 0), rN, rN, rN, rN, rN, rN, rN, rN, rI 0] :: ([] ++ [zA 0 1024] ++ [zA 0 8] ++ [zA 0 8] ++ [zA 0 8] ++ [zA 0 8] ++ [zA 0 8] ++ [zA 1 35072] ++ [zA 1 4096] ++ [zA 1 64] ++ [zA 0 512])) (15, 9, 0) dX6_init_82 rfl ac_int (t := 0) rfl rfl (fun _ _ h => h) (by simp) (k := 10) rfl (by rw [hP]; rfl) (by decide) (n := 512) (by decide) (by decide) (by omega) (by omega) rfl ?_
  refine RF.put (S' := oB 6 [rR (15, 0, 0), rR (15, 1, 0), rR (15, 2, 0), rR (15, 3, 0), rR (15, 4, 0), rR (15, 5, 0), rR (15, 6, 0), rR (15, 7, 0), rR (15, 8, 0), rR (15, 9, 0), rN, rN, rN, rN, rN, rN, rN, rI 0] :: ([] ++ [zA 0 1024] ++ [zA 0 8] ++ [zA 0 8] ++ [zA 0 8] ++ [zA 0 8] ++ [zA 0 8] ++ [zA 1 35072] ++ [zA 1 4096] ++ [zA 1 64] ++ [zA 0 512])) dX6_init_84 fqX6_39 rfl (by simp) (k0 := 0) hP.symm rfl (by simp) rfl rfl rfl ?_
  refine RF.aload_n dX6_init_87 rfl ?_
  refine RF.bipush (v := 8) dX6_init_88 rfl ?_
  refine RF.newa (S' := oB 6 [rR (15, 0, 0), rR (15, 1, 0), rR (15, 2, 0), rR (15, 3, 0), rR (15, 4, 0), rR (15, 5, 0), rR (15, 6, 0), rR (15, 7, 0), rR (15, 8, 0), rR (15, 9, 0), rN, rN, rN, rN, rN, rN, rN, rI 0] :: ([] ++ [zA 0 1024] ++ [zA 0 8] ++ [zA 0 8] ++ [zA 0 8] ++ [zA 0 8] ++ [zA 0 8] ++ [zA 1 35072] ++ [zA 1 4096] ++ [zA 1 64] ++ [zA 0 512] ++ [zA 0 8])) (15, 10, 0) dX6_init_90 rfl ac_int (t := 0) rfl rfl (fun _ _ h => h) (by simp) (k := 11) rfl (by rw [hP]; rfl) (by decide) (n := 8) (by decide) (by decide) (by omega) (by omega) rfl ?_
  refine RF.put (S' := oB 6 [rR (15, 0, 0), rR (15, 1, 0), rR (15, 2, 0), rR (15, 3, 0), rR (15, 4, 0), rR (15, 5, 0), rR (15, 6, 0), rR (15, 7, 0), rR (15, 8, 0), rR (15, 9, 0), rR (15, 10, 0), rN, rN, rN, rN, rN, rN, rI 0] :: ([] ++ [zA 0 1024] ++ [zA 0 8] ++ [zA 0 8] ++ [zA 0 8] ++ [zA 0 8] ++ [zA 0 8] ++ [zA 1 35072] ++ [zA 1 4096] ++ [zA 1 64] ++ [zA 0 512] ++ [zA 0 8])) dX6_init_92 fqX6_42 rfl (by simp) (k0 := 0) hP.symm rfl (by simp) rfl rfl rfl ?_
  refine RF.aload_n dX6_init_95 rfl ?_
  refine RF.bipush (v := 64) dX6_init_96 rfl ?_
  refine RF.newa (S' := oB 6 [rR (15, 0, 0), rR (15, 1, 0), rR (15, 2, 0), rR (15, 3, 0), rR (15, 4, 0), rR (15, 5, 0), rR (15, 6, 0), rR (15, 7, 0), rR (15, 8, 0), rR (15, 9, 0), rR (15, 10, 0), rN, rN, rN, rN, rN, rN, rI 0] :: ([] ++ [zA 0 1024] ++ [zA 0 8] ++ [zA 0 8] ++ [zA 0 8] ++ [zA 0 8] ++ [zA 0 8] ++ [zA 1 35072] ++ [zA 1 4096] ++ [zA 1 64] ++ [zA 0 512] ++ [zA 0 8] ++ [zA 0 64])) (15, 11, 0) dX6_init_98 rfl ac_int (t := 0) rfl rfl (fun _ _ h => h) (by simp) (k := 12) rfl (by rw [hP]; rfl) (by decide) (n := 64) (by decide) (by decide) (by omega) (by omega) rfl ?_
  refine RF.put (S' := oB 6 [rR (15, 0, 0), rR (15, 1, 0), rR (15, 2, 0), rR (15, 3, 0), rR (15, 4, 0), rR (15, 5, 0), rR (15, 6, 0), rR (15, 7, 0), rR (15, 8, 0), rR (15, 9, 0), rR (15, 10, 0), rR (15, 11, 0), rN, rN, rN, rN, rN, rI 0] :: ([] ++ [zA 0 1024] ++ [zA 0 8] ++ [zA 0 8] ++ [zA 0 8] ++ [zA 0 8] ++ [zA 0 8] ++ [zA 1 35072] ++ [zA 1 4096] ++ [zA 1 64] ++ [zA 0 512] ++ [zA 0 8] ++ [zA 0 64])) dX6_init_100 fqX6_45 rfl (by simp) (k0 := 0) hP.symm rfl (by simp) rfl rfl rfl ?_
  refine RF.aload_n dX6_init_103 rfl ?_
  refine RF.bipush (v := 64) dX6_init_104 rfl ?_
  refine RF.newa (S' := oB 6 [rR (15, 0, 0), rR (15, 1, 0), rR (15, 2, 0), rR (15, 3, 0), rR (15, 4, 0), rR (15, 5, 0), rR (15, 6, 0), rR (15, 7, 0), rR (15, 8, 0), rR (15, 9, 0), rR (15, 10, 0), rR (15, 11, 0), rN, rN, rN, rN, rN, rI 0] :: ([] ++ [zA 0 1024] ++ [zA 0 8] ++ [zA 0 8] ++ [zA 0 8] ++ [zA 0 8] ++ [zA 0 8] ++ [zA 1 35072] ++ [zA 1 4096] ++ [zA 1 64] ++ [zA 0 512] ++ [zA 0 8] ++ [zA 0 64] ++ [zA 0 64])) (15, 12, 0) dX6_init_106 rfl ac_int (t := 0) rfl rfl (fun _ _ h => h) (by simp) (k := 13) rfl (by rw [hP]; rfl) (by decide) (n := 64) (by decide) (by decide) (by omega) (by omega) rfl ?_
  refine RF.put (S' := oB 6 [rR (15, 0, 0), rR (15, 1, 0), rR (15, 2, 0), rR (15, 3, 0), rR (15, 4, 0), rR (15, 5, 0), rR (15, 6, 0), rR (15, 7, 0), rR (15, 8, 0), rR (15, 9, 0), rR (15, 10, 0), rR (15, 11, 0), rR (15, 12, 0), rN, rN, rN, rN, rI 0] :: ([] ++ [zA 0 1024] ++ [zA 0 8] ++ [zA 0 8] ++ [zA 0 8] ++ [zA 0 8] ++ [zA 0 8] ++ [zA 1 35072] ++ [zA 1 4096] ++ [zA 1 64] ++ [zA 0 512] ++ [zA 0 8] ++ [zA 0 64] ++ [zA 0 64])) dX6_init_108 fqX6_48 rfl (by simp) (k0 := 0) hP.symm rfl (by simp) rfl rfl rfl ?_
  refine RF.aload_n dX6_init_111 rfl ?_
  refine RF.bipush (v := 64) dX6_init_112 rfl ?_
  refine RF.newa (S' := oB 6 [rR (15, 0, 0), rR (15, 1, 0), rR (15, 2, 0), rR (15, 3, 0), rR (15, 4, 0), rR (15, 5, 0), rR (15, 6, 0), rR (15, 7, 0), rR (15, 8, 0), rR (15, 9, 0), rR (15, 10, 0), rR (15, 11, 0), rR (15, 12, 0), rN, rN, rN, rN, rI 0] :: ([] ++ [zA 0 1024] ++ [zA 0 8] ++ [zA 0 8] ++ [zA 0 8] ++ [zA 0 8] ++ [zA 0 8] ++ [zA 1 35072] ++ [zA 1 4096] ++ [zA 1 64] ++ [zA 0 512] ++ [zA 0 8] ++ [zA 0 64] ++ [zA 0 64] ++ [zA 0 64])) (15, 13, 0) dX6_init_114 rfl ac_int (t := 0) rfl rfl (fun _ _ h => h) (by simp) (k := 14) rfl (by rw [hP]; rfl) (by decide) (n := 64) (by decide) (by decide) (by omega) (by omega) rfl ?_
  refine RF.put (S' := oB 6 [rR (15, 0, 0), rR (15, 1, 0), rR (15, 2, 0), rR (15, 3, 0), rR (15, 4, 0), rR (15, 5, 0), rR (15, 6, 0), rR (15, 7, 0), rR (15, 8, 0), rR (15, 9, 0), rR (15, 10, 0), rR (15, 11, 0), rR (15, 12, 0), rR (15, 13, 0), rN, rN, rN, rI 0] :: ([] ++ [zA 0 1024] ++ [zA 0 8] ++ [zA 0 8] ++ [zA 0 8] ++ [zA 0 8] ++ [zA 0 8] ++ [zA 1 35072] ++ [zA 1 4096] ++ [zA 1 64] ++ [zA 0 512] ++ [zA 0 8] ++ [zA 0 64] ++ [zA 0 64] ++ [zA 0 64])) dX6_init_116 fqX6_51 rfl (by simp) (k0 := 0) hP.symm rfl (by simp) rfl rfl rfl ?_
  refine RF.aload_n dX6_init_119 rfl ?_
  refine RF.bipush (v := 8) dX6_init_120 rfl ?_
  refine RF.newa (S' := oB 6 [rR (15, 0, 0), rR (15, 1, 0), rR (15, 2, 0), rR (15, 3, 0), rR (15, 4, 0), rR (15, 5, 0), rR (15, 6, 0), rR (15, 7, 0), rR (15, 8, 0), rR (15, 9, 0), rR (15, 10, 0), rR (15, 11, 0), rR (15, 12, 0), rR (15, 13, 0), rN, rN, rN, rI 0] :: ([] ++ [zA 0 1024] ++ [zA 0 8] ++ [zA 0 8] ++ [zA 0 8] ++ [zA 0 8] ++ [zA 0 8] ++ [zA 1 35072] ++ [zA 1 4096] ++ [zA 1 64] ++ [zA 0 512] ++ [zA 0 8] ++ [zA 0 64] ++ [zA 0 64] ++ [zA 0 64] ++ [zA 0 8])) (15, 14, 0) dX6_init_122 rfl ac_int (t := 0) rfl rfl (fun _ _ h => h) (by simp) (k := 15) rfl (by rw [hP]; rfl) (by decide) (n := 8) (by decide) (by decide) (by omega) (by omega) rfl ?_
  refine RF.put (S' := oB 6 [rR (15, 0, 0), rR (15, 1, 0), rR (15, 2, 0), rR (15, 3, 0), rR (15, 4, 0), rR (15, 5, 0), rR (15, 6, 0), rR (15, 7, 0), rR (15, 8, 0), rR (15, 9, 0), rR (15, 10, 0), rR (15, 11, 0), rR (15, 12, 0), rR (15, 13, 0), rR (15, 14, 0), rN, rN, rI 0] :: ([] ++ [zA 0 1024] ++ [zA 0 8] ++ [zA 0 8] ++ [zA 0 8] ++ [zA 0 8] ++ [zA 0 8] ++ [zA 1 35072] ++ [zA 1 4096] ++ [zA 1 64] ++ [zA 0 512] ++ [zA 0 8] ++ [zA 0 64] ++ [zA 0 64] ++ [zA 0 64] ++ [zA 0 8])) dX6_init_124 fqX6_54 rfl (by simp) (k0 := 0) hP.symm rfl (by simp) rfl rfl rfl ?_
  refine RF.aload_n dX6_init_127 rfl ?_
  refine RF.sipush (v := 512) dX6_init_128 rfl ?_
  refine RF.newa (S' := oB 6 [rR (15, 0, 0), rR (15, 1, 0), rR (15, 2, 0), rR (15, 3, 0), rR (15, 4, 0), rR (15, 5, 0), rR (15, 6, 0), rR (15, 7, 0), rR (15, 8, 0), rR (15, 9, 0), rR (15, 10, 0), rR (15, 11, 0), rR (15, 12, 0), rR (15, 13, 0), rR (15, 14, 0), rN, rN, rI 0] :: ([] ++ [zA 0 1024] ++ [zA 0 8] ++ [zA 0 8] ++ [zA 0 8] ++ [zA 0 8] ++ [zA 0 8] ++ [zA 1 35072] ++ [zA 1 4096] ++ [zA 1 64] ++ [zA 0 512] ++ [zA 0 8] ++ [zA 0 64] ++ [zA 0 64] ++ [zA 0 64] ++ [zA 0 8] ++ [zA 0 512])) (15, 15, 0) dX6_init_131 rfl ac_int (t := 0) rfl rfl (fun _ _ h => h) (by simp) (k := 16) rfl (by rw [hP]; rfl) (by decide) (n := 512) (by decide) (by decide) (by omega) (by omega) rfl ?_
  refine RF.put (S' := oB 6 [rR (15, 0, 0), rR (15, 1, 0), rR (15, 2, 0), rR (15, 3, 0), rR (15, 4, 0), rR (15, 5, 0), rR (15, 6, 0), rR (15, 7, 0), rR (15, 8, 0), rR (15, 9, 0), rR (15, 10, 0), rR (15, 11, 0), rR (15, 12, 0), rR (15, 13, 0), rR (15, 14, 0), rR (15, 15, 0), rN, rI 0] :: ([] ++ [zA 0 1024] ++ [zA 0 8] ++ [zA 0 8] ++ [zA 0 8] ++ [zA 0 8] ++ [zA 0 8] ++ [zA 1 35072] ++ [zA 1 4096] ++ [zA 1 64] ++ [zA 0 512] ++ [zA 0 8] ++ [zA 0 64] ++ [zA 0 64] ++ [zA 0 64] ++ [zA 0 8] ++ [zA 0 512])) dX6_init_133 fqX6_57 rfl (by simp) (k0 := 0) hP.symm rfl (by simp) rfl rfl rfl ?_
  refine RF.aload_n dX6_init_136 rfl ?_
  refine RF.sipush (v := 512) dX6_init_137 rfl ?_
  refine RF.newa (S' := oB 6 [rR (15, 0, 0), rR (15, 1, 0), rR (15, 2, 0), rR (15, 3, 0), rR (15, 4, 0), rR (15, 5, 0), rR (15, 6, 0), rR (15, 7, 0), rR (15, 8, 0), rR (15, 9, 0), rR (15, 10, 0), rR (15, 11, 0), rR (15, 12, 0), rR (15, 13, 0), rR (15, 14, 0), rR (15, 15, 0), rN, rI 0] :: ([] ++ [zA 0 1024] ++ [zA 0 8] ++ [zA 0 8] ++ [zA 0 8] ++ [zA 0 8] ++ [zA 0 8] ++ [zA 1 35072] ++ [zA 1 4096] ++ [zA 1 64] ++ [zA 0 512] ++ [zA 0 8] ++ [zA 0 64] ++ [zA 0 64] ++ [zA 0 64] ++ [zA 0 8] ++ [zA 0 512] ++ [zA 0 512])) (15, 16, 0) dX6_init_140 rfl ac_int (t := 0) rfl rfl (fun _ _ h => h) (by simp) (k := 17) rfl (by rw [hP]; rfl) (by decide) (n := 512) (by decide) (by decide) (by omega) (by omega) rfl ?_
  refine RF.put (S' := oB 6 [rR (15, 0, 0), rR (15, 1, 0), rR (15, 2, 0), rR (15, 3, 0), rR (15, 4, 0), rR (15, 5, 0), rR (15, 6, 0), rR (15, 7, 0), rR (15, 8, 0), rR (15, 9, 0), rR (15, 10, 0), rR (15, 11, 0), rR (15, 12, 0), rR (15, 13, 0), rR (15, 14, 0), rR (15, 15, 0), rR (15, 16, 0), rI 0] :: ([] ++ [zA 0 1024] ++ [zA 0 8] ++ [zA 0 8] ++ [zA 0 8] ++ [zA 0 8] ++ [zA 0 8] ++ [zA 1 35072] ++ [zA 1 4096] ++ [zA 1 64] ++ [zA 0 512] ++ [zA 0 8] ++ [zA 0 64] ++ [zA 0 64] ++ [zA 0 64] ++ [zA 0 8] ++ [zA 0 512] ++ [zA 0 512])) dX6_init_142 fqX6_60 rfl (by simp) (k0 := 0) hP.symm rfl (by simp) rfl rfl rfl ?_
  exact RF.stop ⟨rfl, dX6_init_145, rfl⟩ (by omega) (by omega)
