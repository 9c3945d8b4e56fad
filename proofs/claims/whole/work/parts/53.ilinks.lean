/-! the links of the constructors -/
theorem obI : Cond.instanceMethod Lib.objectInit ∈ tbg := tbg_in (List.mem_of_getElem? (i := 53) (by decide +kernel)) (by decide +kernel)
theorem obC : Cond.code Lib.objectInit ⟨#[0xb1]⟩ 1 none ∈ tbg := tbg_in (List.mem_of_getElem? (i := 54) (by decide +kernel)) (by decide +kernel)
abbrev dfX0 : List AV := [rN, rI 0, rI 0, rI 0]
theorem dvX0 : ∀ (K : EK) (j : Nat), j < 4 → defaultValue (tyX0 j) = vp_V (dfX0.map (tv K)) j := by
  intro K j hj
  rcases j with _ | j
  · rfl
  rcases j with _ | j
  · rfl
  rcases j with _ | j
  · rfl
  rcases j with _ | j
  · rfl
  omega
abbrev dfX1 : List AV := [rN, rI 0, rI 0]
theorem dvX1 : ∀ (K : EK) (j : Nat), j < 3 → defaultValue (tyX1 j) = vp_V (dfX1.map (tv K)) j := by
  intro K j hj
  rcases j with _ | j
  · rfl
  rcases j with _ | j
  · rfl
  rcases j with _ | j
  · rfl
  omega
abbrev dfX2 : List AV := [rI 0, rN, rI 0, rI 0, rI 0, rI 0, rI 0, rN, rN, rN, rN, rN, rN, rN, rI 0]
theorem dvX2 : ∀ (K : EK) (j : Nat), j < 15 → defaultValue (tyX2 j) = vp_V (dfX2.map (tv K)) j := by
  intro K j hj
  rcases j with _ | j
  · rfl
  rcases j with _ | j
  · rfl
  rcases j with _ | j
  · rfl
  rcases j with _ | j
  · rfl
  rcases j with _ | j
  · rfl
  rcases j with _ | j
  · rfl
  rcases j with _ | j
  · rfl
  rcases j with _ | j
  · rfl
  rcases j with _ | j
  · rfl
  rcases j with _ | j
  · rfl
  rcases j with _ | j
  · rfl
  rcases j with _ | j
  · rfl
  rcases j with _ | j
  · rfl
  rcases j with _ | j
  · rfl
  rcases j with _ | j
  · rfl
  omega
abbrev dfX3 : List AV := [rN, rN, rI 0]
theorem dvX3 : ∀ (K : EK) (j : Nat), j < 3 → defaultValue (tyX3 j) = vp_V (dfX3.map (tv K)) j := by
  intro K j hj
  rcases j with _ | j
  · rfl
  rcases j with _ | j
  · rfl
  rcases j with _ | j
  · rfl
  omega
abbrev dfX4 : List AV := [rN, rI 0]
theorem dvX4 : ∀ (K : EK) (j : Nat), j < 2 → defaultValue (tyX4 j) = vp_V (dfX4.map (tv K)) j := by
  intro K j hj
  rcases j with _ | j
  · rfl
  rcases j with _ | j
  · rfl
  omega
abbrev dfX5 : List AV := [rN, rN, rI 0]
theorem dvX5 : ∀ (K : EK) (j : Nat), j < 3 → defaultValue (tyX5 j) = vp_V (dfX5.map (tv K)) j := by
  intro K j hj
  rcases j with _ | j
  · rfl
  rcases j with _ | j
  · rfl
  rcases j with _ | j
  · rfl
  omega
abbrev dfX6 : List AV := [rN, rN, rN, rN, rN, rN, rN, rN, rN, rN, rN, rN, rN, rN, rN, rN, rN, rI 0]
theorem dvX6 : ∀ (K : EK) (j : Nat), j < 18 → defaultValue (tyX6 j) = vp_V (dfX6.map (tv K)) j := by
  intro K j hj
  rcases j with _ | j
  · rfl
  rcases j with _ | j
  · rfl
  rcases j with _ | j
  · rfl
  rcases j with _ | j
  · rfl
  rcases j with _ | j
  · rfl
  rcases j with _ | j
  · rfl
  rcases j with _ | j
  · rfl
  rcases j with _ | j
  · rfl
  rcases j with _ | j
  · rfl
  rcases j with _ | j
  · rfl
  rcases j with _ | j
  · rfl
  rcases j with _ | j
  · rfl
  rcases j with _ | j
  · rfl
  rcases j with _ | j
  · rfl
  rcases j with _ | j
  · rfl
  rcases j with _ | j
  · rfl
  rcases j with _ | j
  · rfl
  rcases j with _ | j
  · rfl
  omega
theorem clL_7 : Cond.classLink RL 7 RX5 ∈ tbg := tbg_in (List.mem_of_getElem? (i := 47) (by decide +kernel)) (by decide +kernel)
theorem nlL_7 : NLK RL 7 5 3 dfX5 := ⟨_, _, tyX5, rfl, uwX5, tyX5_ok, clL_7, tbg_in (List.mem_of_getElem? (i := 48) (by decide +kernel)) (by decide +kernel), inX5, dvX5⟩
theorem ilL_9 : ILK RL 9 mX5_init 0 := ⟨Or.inl (tbg_in (List.mem_of_getElem? (i := 49) (by decide +kernel)) (by decide +kernel)), tbg_in (List.mem_of_getElem? (i := 50) (by decide +kernel)) (by decide +kernel), inX5, cdX5_init, ⟨by decide, by decide, by decide +kernel⟩, by decide, rfl, rfl⟩
theorem olX5 : Cond.methodLink RX5 1 Lib.objectInit ∈ tbg := tbg_in (List.mem_of_getElem? (i := 52) (by decide +kernel)) (by decide +kernel)
theorem clX5_9 : Cond.classLink RX5 9 RX2 ∈ tbg := tbg_in (List.mem_of_getElem? (i := 55) (by decide +kernel)) (by decide +kernel)
theorem nlX5_9 : NLK RX5 9 2 15 dfX2 := ⟨_, _, tyX2, rfl, uwX2, tyX2_ok, clX5_9, tbg_in (List.mem_of_getElem? (i := 57) (by decide +kernel)) (by decide +kernel), inX2, dvX2⟩
theorem ilX5_15 : ILK RX5 15 mX2_init 1 := ⟨Or.inl (tbg_in (List.mem_of_getElem? (i := 58) (by decide +kernel)) (by decide +kernel)), tbg_in (List.mem_of_getElem? (i := 59) (by decide +kernel)) (by decide +kernel), inX2, cdX2_init, ⟨by decide, by decide, by decide +kernel⟩, by decide, rfl, rfl⟩
theorem olX2 : Cond.methodLink RX2 3 Lib.objectInit ∈ tbg := tbg_in (List.mem_of_getElem? (i := 61) (by decide +kernel)) (by decide +kernel)
theorem clX2_31 : Cond.classLink RX2 31 RX4 ∈ tbg := tbg_in (List.mem_of_getElem? (i := 62) (by decide +kernel)) (by decide +kernel)
theorem nlX2_31 : NLK RX2 31 4 2 dfX4 := ⟨_, _, tyX4, rfl, uwX4, tyX4_ok, clX2_31, tbg_in (List.mem_of_getElem? (i := 63) (by decide +kernel)) (by decide +kernel), inX4, dvX4⟩
theorem ilX2_33 : ILK RX2 33 mX4_init 0 := ⟨Or.inr ⟨"FlowKernel", nst_in (List.mem_of_getElem? (i := 64) (by decide +kernel)) (by decide +kernel)⟩, tbg_in (List.mem_of_getElem? (i := 65) (by decide +kernel)) (by decide +kernel), inX4, cdX4_init, ⟨by decide, by decide, by decide +kernel⟩, by decide, rfl, rfl⟩
theorem olX4 : Cond.methodLink RX4 3 Lib.objectInit ∈ tbg := tbg_in (List.mem_of_getElem? (i := 67) (by decide +kernel)) (by decide +kernel)
theorem clX2_44 : Cond.classLink RX2 44 RX1 ∈ tbg := tbg_in (List.mem_of_getElem? (i := 78) (by decide +kernel)) (by decide +kernel)
theorem nlX2_44 : NLK RX2 44 1 3 dfX1 := ⟨_, _, tyX1, rfl, uwX1, tyX1_ok, clX2_44, tbg_in (List.mem_of_getElem? (i := 79) (by decide +kernel)) (by decide +kernel), inX1, dvX1⟩
theorem ilX2_46 : ILK RX2 46 mX1_init 0 := ⟨Or.inl (tbg_in (List.mem_of_getElem? (i := 80) (by decide +kernel)) (by decide +kernel)), tbg_in (List.mem_of_getElem? (i := 81) (by decide +kernel)) (by decide +kernel), inX1, cdX1_init, ⟨by decide, by decide, by decide +kernel⟩, by decide, rfl, rfl⟩
theorem olX1 : Cond.methodLink RX1 3 Lib.objectInit ∈ tbg := tbg_in (List.mem_of_getElem? (i := 83) (by decide +kernel)) (by decide +kernel)
theorem clX1_9 : Cond.classLink RX1 9 RX0 ∈ tbg := tbg_in (List.mem_of_getElem? (i := 84) (by decide +kernel)) (by decide +kernel)
theorem nlX1_9 : NLK RX1 9 0 4 dfX0 := ⟨_, _, tyX0, rfl, uwX0, tyX0_ok, clX1_9, tbg_in (List.mem_of_getElem? (i := 86) (by decide +kernel)) (by decide +kernel), inX0, dvX0⟩
theorem ilX1_24 : ILK RX1 24 mX0_init 0 := ⟨Or.inr ⟨"FlowKernel", nst_in (List.mem_of_getElem? (i := 87) (by decide +kernel)) (by decide +kernel)⟩, tbg_in (List.mem_of_getElem? (i := 88) (by decide +kernel)) (by decide +kernel), inX0, cdX0_init, ⟨by decide, by decide, by decide +kernel⟩, by decide, rfl, rfl⟩
theorem olX0 : Cond.methodLink RX0 3 Lib.objectInit ∈ tbg := tbg_in (List.mem_of_getElem? (i := 90) (by decide +kernel)) (by decide +kernel)
theorem clX0_9 : Cond.classLink RX0 9 RX4 ∈ tbg := tbg_in (List.mem_of_getElem? (i := 91) (by decide +kernel)) (by decide +kernel)
theorem nlX0_9 : NLK RX0 9 4 2 dfX4 := ⟨_, _, tyX4, rfl, uwX4, tyX4_ok, clX0_9, tbg_in (List.mem_of_getElem? (i := 63) (by decide +kernel)) (by decide +kernel), inX4, dvX4⟩
theorem ilX0_11 : ILK RX0 11 mX4_init 0 := ⟨Or.inr ⟨"FlowKernel", nst_in (List.mem_of_getElem? (i := 92) (by decide +kernel)) (by decide +kernel)⟩, tbg_in (List.mem_of_getElem? (i := 65) (by decide +kernel)) (by decide +kernel), inX4, cdX4_init, ⟨by decide, by decide, by decide +kernel⟩, by decide, rfl, rfl⟩
theorem clX2_51 : Cond.classLink RX2 51 RX3 ∈ tbg := tbg_in (List.mem_of_getElem? (i := 124) (by decide +kernel)) (by decide +kernel)
theorem nlX2_51 : NLK RX2 51 3 3 dfX3 := ⟨_, _, tyX3, rfl, uwX3, tyX3_ok, clX2_51, tbg_in (List.mem_of_getElem? (i := 126) (by decide +kernel)) (by decide +kernel), inX3, dvX3⟩
theorem ilX2_69 : ILK RX2 69 mX3_init 0 := ⟨Or.inr ⟨"FlowKernel", nst_in (List.mem_of_getElem? (i := 127) (by decide +kernel)) (by decide +kernel)⟩, tbg_in (List.mem_of_getElem? (i := 128) (by decide +kernel)) (by decide +kernel), inX3, cdX3_init, ⟨by decide, by decide, by decide +kernel⟩, by decide, rfl, rfl⟩
theorem olX3 : Cond.methodLink RX3 3 Lib.objectInit ∈ tbg := tbg_in (List.mem_of_getElem? (i := 130) (by decide +kernel)) (by decide +kernel)
theorem clX3_9 : Cond.classLink RX3 9 RX4 ∈ tbg := tbg_in (List.mem_of_getElem? (i := 131) (by decide +kernel)) (by decide +kernel)
theorem nlX3_9 : NLK RX3 9 4 2 dfX4 := ⟨_, _, tyX4, rfl, uwX4, tyX4_ok, clX3_9, tbg_in (List.mem_of_getElem? (i := 63) (by decide +kernel)) (by decide +kernel), inX4, dvX4⟩
theorem ilX3_11 : ILK RX3 11 mX4_init 0 := ⟨Or.inr ⟨"FlowKernel", nst_in (List.mem_of_getElem? (i := 132) (by decide +kernel)) (by decide +kernel)⟩, tbg_in (List.mem_of_getElem? (i := 65) (by decide +kernel)) (by decide +kernel), inX4, cdX4_init, ⟨by decide, by decide, by decide +kernel⟩, by decide, rfl, rfl⟩
theorem clX5_18 : Cond.classLink RX5 18 RX4 ∈ tbg := tbg_in (List.mem_of_getElem? (i := 211) (by decide +kernel)) (by decide +kernel)
theorem nlX5_18 : NLK RX5 18 4 2 dfX4 := ⟨_, _, tyX4, rfl, uwX4, tyX4_ok, clX5_18, tbg_in (List.mem_of_getElem? (i := 63) (by decide +kernel)) (by decide +kernel), inX4, dvX4⟩
theorem ilX5_20 : ILK RX5 20 mX4_init 0 := ⟨Or.inr ⟨"FlowKernel", nst_in (List.mem_of_getElem? (i := 212) (by decide +kernel)) (by decide +kernel)⟩, tbg_in (List.mem_of_getElem? (i := 65) (by decide +kernel)) (by decide +kernel), inX4, cdX4_init, ⟨by decide, by decide, by decide +kernel⟩, by decide, rfl, rfl⟩
theorem clL_10 : Cond.classLink RL 10 RX6 ∈ tbg := tbg_in (List.mem_of_getElem? (i := 466) (by decide +kernel)) (by decide +kernel)
theorem nlL_10 : NLK RL 10 6 18 dfX6 := ⟨_, _, tyX6, rfl, uwX6, tyX6_ok, clL_10, tbg_in (List.mem_of_getElem? (i := 467) (by decide +kernel)) (by decide +kernel), inX6, dvX6⟩
theorem ilL_12 : ILK RL 12 mX6_init 0 := ⟨Or.inl (tbg_in (List.mem_of_getElem? (i := 468) (by decide +kernel)) (by decide +kernel)), tbg_in (List.mem_of_getElem? (i := 469) (by decide +kernel)) (by decide +kernel), inX6, cdX6_init, ⟨by decide, by decide, by decide +kernel⟩, by decide, rfl, rfl⟩
theorem olX6 : Cond.methodLink RX6 3 Lib.objectInit ∈ tbg := tbg_in (List.mem_of_getElem? (i := 471) (by decide +kernel)) (by decide +kernel)
theorem ac_int : Cond.arrayClass .int ∈ tbg := tbg_in (List.mem_of_getElem? (i := 77) (by decide +kernel)) (by decide +kernel)
theorem ac_boolean : Cond.arrayClass .boolean ∈ tbg := tbg_in (List.mem_of_getElem? (i := 528) (by decide +kernel)) (by decide +kernel)
theorem fqX4_9 : FLQ RX4 9 4 0 (.array .int) := ⟨_, _, tyX4, rfl, by decide, uwX4, tyX4_ok, nmX4, by decide +kernel, rfl, tbg_in (List.mem_of_getElem? (i := 68) (by decide +kernel)) (by decide +kernel)⟩
theorem fqX4_15 : FLQ RX4 15 4 1 .int := ⟨_, _, tyX4, rfl, by decide, uwX4, tyX4_ok, nmX4, by decide +kernel, rfl, tbg_in (List.mem_of_getElem? (i := 69) (by decide +kernel)) (by decide +kernel)⟩
theorem fqX0_12 : FLQ RX0 12 0 0 (.object "FlowKernel$TagSet") := ⟨_, _, tyX0, rfl, by decide, uwX0, tyX0_ok, nmX0, by decide +kernel, rfl, tbg_in (List.mem_of_getElem? (i := 93) (by decide +kernel)) (by decide +kernel)⟩
theorem fqX0_18 : FLQ RX0 18 0 1 .int := ⟨_, _, tyX0, rfl, by decide, uwX0, tyX0_ok, nmX0, by decide +kernel, rfl, tbg_in (List.mem_of_getElem? (i := 95) (by decide +kernel)) (by decide +kernel)⟩
theorem fqX0_22 : FLQ RX0 22 0 2 .int := ⟨_, _, tyX0, rfl, by decide, uwX0, tyX0_ok, nmX0, by decide +kernel, rfl, tbg_in (List.mem_of_getElem? (i := 98) (by decide +kernel)) (by decide +kernel)⟩
theorem fqX0_25 : FLQ RX0 25 0 3 .int := ⟨_, _, tyX0, rfl, by decide, uwX0, tyX0_ok, nmX0, by decide +kernel, rfl, tbg_in (List.mem_of_getElem? (i := 101) (by decide +kernel)) (by decide +kernel)⟩
theorem fqX1_11 : FLQ RX1 11 1 0 (.array (.object "FlowKernel$Message")) := ⟨_, _, tyX1, rfl, by decide, uwX1, tyX1_ok, nmX1, by decide +kernel, rfl, tbg_in (List.mem_of_getElem? (i := 113) (by decide +kernel)) (by decide +kernel)⟩
theorem fqX1_17 : FLQ RX1 17 1 1 .int := ⟨_, _, tyX1, rfl, by decide, uwX1, tyX1_ok, nmX1, by decide +kernel, rfl, tbg_in (List.mem_of_getElem? (i := 114) (by decide +kernel)) (by decide +kernel)⟩
theorem fqX1_21 : FLQ RX1 21 1 2 .int := ⟨_, _, tyX1, rfl, by decide, uwX1, tyX1_ok, nmX1, by decide +kernel, rfl, tbg_in (List.mem_of_getElem? (i := 115) (by decide +kernel)) (by decide +kernel)⟩
theorem fqX3_12 : FLQ RX3 12 3 0 (.object "FlowKernel$TagSet") := ⟨_, _, tyX3, rfl, by decide, uwX3, tyX3_ok, nmX3, by decide +kernel, rfl, tbg_in (List.mem_of_getElem? (i := 133) (by decide +kernel)) (by decide +kernel)⟩
theorem fqX3_18 : FLQ RX3 18 3 1 (.array .int) := ⟨_, _, tyX3, rfl, by decide, uwX3, tyX3_ok, nmX3, by decide +kernel, rfl, tbg_in (List.mem_of_getElem? (i := 136) (by decide +kernel)) (by decide +kernel)⟩
theorem fqX3_22 : FLQ RX3 22 3 2 .boolean := ⟨_, _, tyX3, rfl, by decide, uwX3, tyX3_ok, nmX3, by decide +kernel, rfl, tbg_in (List.mem_of_getElem? (i := 138) (by decide +kernel)) (by decide +kernel)⟩
theorem fqX2_66 : FLQ RX2 66 2 0 .int := ⟨_, _, tyX2, rfl, by decide, uwX2, tyX2_ok, nmX2, by decide +kernel, rfl, tbg_in (List.mem_of_getElem? (i := 148) (by decide +kernel)) (by decide +kernel)⟩
theorem fqX2_9 : FLQ RX2 9 2 1 (.array .int) := ⟨_, _, tyX2, rfl, by decide, uwX2, tyX2_ok, nmX2, by decide +kernel, rfl, tbg_in (List.mem_of_getElem? (i := 151) (by decide +kernel)) (by decide +kernel)⟩
theorem fqX2_15 : FLQ RX2 15 2 2 .int := ⟨_, _, tyX2, rfl, by decide, uwX2, tyX2_ok, nmX2, by decide +kernel, rfl, tbg_in (List.mem_of_getElem? (i := 153) (by decide +kernel)) (by decide +kernel)⟩
theorem fqX2_19 : FLQ RX2 19 2 3 .int := ⟨_, _, tyX2, rfl, by decide, uwX2, tyX2_ok, nmX2, by decide +kernel, rfl, tbg_in (List.mem_of_getElem? (i := 155) (by decide +kernel)) (by decide +kernel)⟩
theorem fqX2_22 : FLQ RX2 22 2 4 .int := ⟨_, _, tyX2, rfl, by decide, uwX2, tyX2_ok, nmX2, by decide +kernel, rfl, tbg_in (List.mem_of_getElem? (i := 157) (by decide +kernel)) (by decide +kernel)⟩
theorem fqX2_25 : FLQ RX2 25 2 5 .int := ⟨_, _, tyX2, rfl, by decide, uwX2, tyX2_ok, nmX2, by decide +kernel, rfl, tbg_in (List.mem_of_getElem? (i := 159) (by decide +kernel)) (by decide +kernel)⟩
theorem fqX2_28 : FLQ RX2 28 2 6 .int := ⟨_, _, tyX2, rfl, by decide, uwX2, tyX2_ok, nmX2, by decide +kernel, rfl, tbg_in (List.mem_of_getElem? (i := 161) (by decide +kernel)) (by decide +kernel)⟩
theorem fqX2_34 : FLQ RX2 34 2 7 (.object "FlowKernel$TagSet") := ⟨_, _, tyX2, rfl, by decide, uwX2, tyX2_ok, nmX2, by decide +kernel, rfl, tbg_in (List.mem_of_getElem? (i := 163) (by decide +kernel)) (by decide +kernel)⟩
theorem fqX2_38 : FLQ RX2 38 2 8 (.object "FlowKernel$TagSet") := ⟨_, _, tyX2, rfl, by decide, uwX2, tyX2_ok, nmX2, by decide +kernel, rfl, tbg_in (List.mem_of_getElem? (i := 166) (by decide +kernel)) (by decide +kernel)⟩
theorem fqX2_41 : FLQ RX2 41 2 9 (.object "FlowKernel$TagSet") := ⟨_, _, tyX2, rfl, by decide, uwX2, tyX2_ok, nmX2, by decide +kernel, rfl, tbg_in (List.mem_of_getElem? (i := 168) (by decide +kernel)) (by decide +kernel)⟩
theorem fqX2_47 : FLQ RX2 47 2 10 (.object "FlowKernel$Queue") := ⟨_, _, tyX2, rfl, by decide, uwX2, tyX2_ok, nmX2, by decide +kernel, rfl, tbg_in (List.mem_of_getElem? (i := 170) (by decide +kernel)) (by decide +kernel)⟩
theorem fqX2_53 : FLQ RX2 53 2 11 (.array (.object "FlowKernel$StoredFile")) := ⟨_, _, tyX2, rfl, by decide, uwX2, tyX2_ok, nmX2, by decide +kernel, rfl, tbg_in (List.mem_of_getElem? (i := 172) (by decide +kernel)) (by decide +kernel)⟩
theorem fqX2_57 : FLQ RX2 57 2 12 (.array .int) := ⟨_, _, tyX2, rfl, by decide, uwX2, tyX2_ok, nmX2, by decide +kernel, rfl, tbg_in (List.mem_of_getElem? (i := 174) (by decide +kernel)) (by decide +kernel)⟩
theorem fqX2_60 : FLQ RX2 60 2 13 (.array .int) := ⟨_, _, tyX2, rfl, by decide, uwX2, tyX2_ok, nmX2, by decide +kernel, rfl, tbg_in (List.mem_of_getElem? (i := 176) (by decide +kernel)) (by decide +kernel)⟩
theorem fqX2_63 : FLQ RX2 63 2 14 .int := ⟨_, _, tyX2, rfl, by decide, uwX2, tyX2_ok, nmX2, by decide +kernel, rfl, tbg_in (List.mem_of_getElem? (i := 178) (by decide +kernel)) (by decide +kernel)⟩
theorem fqX5_11 : FLQ RX5 11 5 0 (.array (.object "FlowKernel$Slot")) := ⟨_, _, tyX5, rfl, by decide, uwX5, tyX5_ok, nmX5, by decide +kernel, rfl, tbg_in (List.mem_of_getElem? (i := 213) (by decide +kernel)) (by decide +kernel)⟩
theorem fqX5_21 : FLQ RX5 21 5 1 (.object "FlowKernel$TagSet") := ⟨_, _, tyX5, rfl, by decide, uwX5, tyX5_ok, nmX5, by decide +kernel, rfl, tbg_in (List.mem_of_getElem? (i := 214) (by decide +kernel)) (by decide +kernel)⟩
theorem fqX5_25 : FLQ RX5 25 5 2 .int := ⟨_, _, tyX5, rfl, by decide, uwX5, tyX5_ok, nmX5, by decide +kernel, rfl, tbg_in (List.mem_of_getElem? (i := 215) (by decide +kernel)) (by decide +kernel)⟩
theorem fqX6_9 : FLQ RX6 9 6 0 (.array .int) := ⟨_, _, tyX6, rfl, by decide, uwX6, tyX6_ok, nmX6, by decide +kernel, rfl, tbg_in (List.mem_of_getElem? (i := 473) (by decide +kernel)) (by decide +kernel)⟩
theorem fqX6_13 : FLQ RX6 13 6 1 (.array .int) := ⟨_, _, tyX6, rfl, by decide, uwX6, tyX6_ok, nmX6, by decide +kernel, rfl, tbg_in (List.mem_of_getElem? (i := 474) (by decide +kernel)) (by decide +kernel)⟩
theorem fqX6_16 : FLQ RX6 16 6 2 (.array .int) := ⟨_, _, tyX6, rfl, by decide, uwX6, tyX6_ok, nmX6, by decide +kernel, rfl, tbg_in (List.mem_of_getElem? (i := 475) (by decide +kernel)) (by decide +kernel)⟩
theorem fqX6_19 : FLQ RX6 19 6 3 (.array .int) := ⟨_, _, tyX6, rfl, by decide, uwX6, tyX6_ok, nmX6, by decide +kernel, rfl, tbg_in (List.mem_of_getElem? (i := 476) (by decide +kernel)) (by decide +kernel)⟩
theorem fqX6_22 : FLQ RX6 22 6 4 (.array .int) := ⟨_, _, tyX6, rfl, by decide, uwX6, tyX6_ok, nmX6, by decide +kernel, rfl, tbg_in (List.mem_of_getElem? (i := 477) (by decide +kernel)) (by decide +kernel)⟩
theorem fqX6_25 : FLQ RX6 25 6 5 (.array .int) := ⟨_, _, tyX6, rfl, by decide, uwX6, tyX6_ok, nmX6, by decide +kernel, rfl, tbg_in (List.mem_of_getElem? (i := 478) (by decide +kernel)) (by decide +kernel)⟩
theorem fqX6_29 : FLQ RX6 29 6 6 (.array .boolean) := ⟨_, _, tyX6, rfl, by decide, uwX6, tyX6_ok, nmX6, by decide +kernel, rfl, tbg_in (List.mem_of_getElem? (i := 479) (by decide +kernel)) (by decide +kernel)⟩
theorem fqX6_33 : FLQ RX6 33 6 7 (.array .boolean) := ⟨_, _, tyX6, rfl, by decide, uwX6, tyX6_ok, nmX6, by decide +kernel, rfl, tbg_in (List.mem_of_getElem? (i := 480) (by decide +kernel)) (by decide +kernel)⟩
theorem fqX6_36 : FLQ RX6 36 6 8 (.array .boolean) := ⟨_, _, tyX6, rfl, by decide, uwX6, tyX6_ok, nmX6, by decide +kernel, rfl, tbg_in (List.mem_of_getElem? (i := 481) (by decide +kernel)) (by decide +kernel)⟩
theorem fqX6_39 : FLQ RX6 39 6 9 (.array .int) := ⟨_, _, tyX6, rfl, by decide, uwX6, tyX6_ok, nmX6, by decide +kernel, rfl, tbg_in (List.mem_of_getElem? (i := 482) (by decide +kernel)) (by decide +kernel)⟩
theorem fqX6_42 : FLQ RX6 42 6 10 (.array .int) := ⟨_, _, tyX6, rfl, by decide, uwX6, tyX6_ok, nmX6, by decide +kernel, rfl, tbg_in (List.mem_of_getElem? (i := 483) (by decide +kernel)) (by decide +kernel)⟩
theorem fqX6_45 : FLQ RX6 45 6 11 (.array .int) := ⟨_, _, tyX6, rfl, by decide, uwX6, tyX6_ok, nmX6, by decide +kernel, rfl, tbg_in (List.mem_of_getElem? (i := 484) (by decide +kernel)) (by decide +kernel)⟩
theorem fqX6_48 : FLQ RX6 48 6 12 (.array .int) := ⟨_, _, tyX6, rfl, by decide, uwX6, tyX6_ok, nmX6, by decide +kernel, rfl, tbg_in (List.mem_of_getElem? (i := 485) (by decide +kernel)) (by decide +kernel)⟩
theorem fqX6_51 : FLQ RX6 51 6 13 (.array .int) := ⟨_, _, tyX6, rfl, by decide, uwX6, tyX6_ok, nmX6, by decide +kernel, rfl, tbg_in (List.mem_of_getElem? (i := 486) (by decide +kernel)) (by decide +kernel)⟩
theorem fqX6_54 : FLQ RX6 54 6 14 (.array .int) := ⟨_, _, tyX6, rfl, by decide, uwX6, tyX6_ok, nmX6, by decide +kernel, rfl, tbg_in (List.mem_of_getElem? (i := 487) (by decide +kernel)) (by decide +kernel)⟩
theorem fqX6_57 : FLQ RX6 57 6 15 (.array .int) := ⟨_, _, tyX6, rfl, by decide, uwX6, tyX6_ok, nmX6, by decide +kernel, rfl, tbg_in (List.mem_of_getElem? (i := 488) (by decide +kernel)) (by decide +kernel)⟩
theorem fqX6_60 : FLQ RX6 60 6 16 (.array .int) := ⟨_, _, tyX6, rfl, by decide, uwX6, tyX6_ok, nmX6, by decide +kernel, rfl, tbg_in (List.mem_of_getElem? (i := 489) (by decide +kernel)) (by decide +kernel)⟩
theorem fqX6_157 : FLQ RX6 157 6 17 .int := ⟨_, _, tyX6, rfl, by decide, uwX6, tyX6_ok, nmX6, by decide +kernel, rfl, tbg_in (List.mem_of_getElem? (i := 490) (by decide +kernel)) (by decide +kernel)⟩
