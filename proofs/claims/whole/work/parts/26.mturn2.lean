set_option maxRecDepth 20000 in
set_option maxHeartbeats 1000000 in
theorem m_works1 (K : EK) (d : Nat) {s q : Nat} (hs : s < 8) (hq : q < 128) (D : DT) : CF K mX6_works (d + 2) [rR (14, 0, 0), rI (nI s), rI 1, rI (nI (128 * s + q))] D (none) (up D (15, 1, 0) s (D (15, 0, 0) (128 * s + q))) := by
  refine CF.of [some (rR (14, 0, 0)), some (rI (nI s)), some (rI 1), some (rI (nI (128 * s + q))), none] (by decide) (leb rfl) rfl ?_
  refine RD.aload_n (pc := 0) dX6_works_0 rfl ?_
  refine RD.getR (pc := 1) dX6_works_1 flX6_9 ok14 rfl rfl ?_
  refine RD.iload_n (pc := 4) dX6_works_4 rfl ?_
  refine RD.iL (pc := 5) (n := 1024) (128 * s + q) (v := D (15, 0, 0) (128 * s + q)) rfl dX6_works_5 (ok15 (by decide)) rfl rfl (by omega) (by decide) ?_
  refine RD.istore (pc := 6) (ls' := [some (rR (14, 0, 0)), some (rI (nI s)), some (rI 1), some (rI (nI (128 * s + q))), some (rI (D (15, 0, 0) (128 * s + q)))]) dX6_works_6 (by decide) rfl ?_
  refine RD.iload_n (pc := 8) dX6_works_8 rfl ?_
  refine RD.iconst (pc := 9) (v := 4) dX6_works_9 (by decide) ?_
  refine RD.icmp_eq (pc := 10) 18 dX6_works_10 (by decide) (fun c10 => absurd c10 (by decide)) (fun c10 => ?_)
  refine RD.iload_n (pc := 13) dX6_works_13 rfl ?_
  refine RD.iconst (pc := 14) (v := 5) dX6_works_14 (by decide) ?_
  refine RD.icmp_ne (pc := 15) 33 dX6_works_15 (by decide) (fun c15 => ?_) (fun c15 => absurd c15 (by decide))
  refine RD.iload_n (pc := 33) dX6_works_33 rfl ?_
  refine RD.bipush (pc := 34) (v := 9) dX6_works_34 (by decide) ?_
  refine RD.icmp_eq (pc := 36) 45 dX6_works_36 (by decide) (fun c36 => absurd c36 (by decide)) (fun c36 => ?_)
  refine RD.iload_n (pc := 39) dX6_works_39 rfl ?_
  refine RD.bipush (pc := 40) (v := 10) dX6_works_40 (by decide) ?_
  refine RD.icmp_ne (pc := 42) 57 dX6_works_42 (by decide) (fun c42 => ?_) (fun c42 => absurd c42 (by decide))
  refine RD.iload_n (pc := 57) dX6_works_57 rfl ?_
  refine RD.tableIn (pc := 58) 116 dX6_works_58 (by decide) (by decide) rfl (by decide) ?_
  refine RD.aload_n (pc := 116) dX6_works_116 rfl ?_
  refine RD.getR (pc := 117) dX6_works_117 flX6_13 ok14 rfl rfl ?_
  refine RD.iload_n (pc := 120) dX6_works_120 rfl ?_
  refine RD.iload (pc := 121) dX6_works_121 rfl ?_
  refine RD.iast (pc := 123) (n := 8) s dX6_works_123 (ok15 (by decide)) rfl rfl hs (by decide) ?_
  refine RD.goto (pc := 124) 281 dX6_works_124 (by decide) ?_
  refine RD.ret (pc := 281) ⟨rfl, dX6_works_281⟩ ?_
  exact ⟨rfl, rfl⟩

set_option maxRecDepth 20000 in
set_option maxHeartbeats 1000000 in
theorem m_works2 (K : EK) (d : Nat) {s q : Nat} (hs : s < 8) (hq : q < 128) (D : DT) : CF K mX6_works (d + 2) [rR (14, 0, 0), rI (nI s), rI 2, rI (nI (128 * s + q))] D (none) (up D (15, 0, 0) (128 * s + q) (D (15, 1, 0) s)) := by
  refine CF.of [some (rR (14, 0, 0)), some (rI (nI s)), some (rI 2), some (rI (nI (128 * s + q))), none] (by decide) (leb rfl) rfl ?_
  refine RD.aload_n (pc := 0) dX6_works_0 rfl ?_
  refine RD.getR (pc := 1) dX6_works_1 flX6_9 ok14 rfl rfl ?_
  refine RD.iload_n (pc := 4) dX6_works_4 rfl ?_
  refine RD.iL (pc := 5) (n := 1024) (128 * s + q) (v := D (15, 0, 0) (128 * s + q)) rfl dX6_works_5 (ok15 (by decide)) rfl rfl (by omega) (by decide) ?_
  refine RD.istore (pc := 6) (ls' := [some (rR (14, 0, 0)), some (rI (nI s)), some (rI 2), some (rI (nI (128 * s + q))), some (rI (D (15, 0, 0) (128 * s + q)))]) dX6_works_6 (by decide) rfl ?_
  refine RD.iload_n (pc := 8) dX6_works_8 rfl ?_
  refine RD.iconst (pc := 9) (v := 4) dX6_works_9 (by decide) ?_
  refine RD.icmp_eq (pc := 10) 18 dX6_works_10 (by decide) (fun c10 => absurd c10 (by decide)) (fun c10 => ?_)
  refine RD.iload_n (pc := 13) dX6_works_13 rfl ?_
  refine RD.iconst (pc := 14) (v := 5) dX6_works_14 (by decide) ?_
  refine RD.icmp_ne (pc := 15) 33 dX6_works_15 (by decide) (fun c15 => ?_) (fun c15 => absurd c15 (by decide))
  refine RD.iload_n (pc := 33) dX6_works_33 rfl ?_
  refine RD.bipush (pc := 34) (v := 9) dX6_works_34 (by decide) ?_
  refine RD.icmp_eq (pc := 36) 45 dX6_works_36 (by decide) (fun c36 => absurd c36 (by decide)) (fun c36 => ?_)
  refine RD.iload_n (pc := 39) dX6_works_39 rfl ?_
  refine RD.bipush (pc := 40) (v := 10) dX6_works_40 (by decide) ?_
  refine RD.icmp_ne (pc := 42) 57 dX6_works_42 (by decide) (fun c42 => ?_) (fun c42 => absurd c42 (by decide))
  refine RD.iload_n (pc := 57) dX6_works_57 rfl ?_
  refine RD.tableIn (pc := 58) 127 dX6_works_58 (by decide) (by decide) rfl (by decide) ?_
  refine RD.aload_n (pc := 127) dX6_works_127 rfl ?_
  refine RD.getR (pc := 128) dX6_works_128 flX6_9 ok14 rfl rfl ?_
  refine RD.iload_n (pc := 131) dX6_works_131 rfl ?_
  refine RD.aload_n (pc := 132) dX6_works_132 rfl ?_
  refine RD.getR (pc := 133) dX6_works_133 flX6_13 ok14 rfl rfl ?_
  refine RD.iload_n (pc := 136) dX6_works_136 rfl ?_
  refine RD.iL (pc := 137) (n := 8) s (v := D (15, 1, 0) s) rfl dX6_works_137 (ok15 (by decide)) rfl rfl hs (by decide) ?_
  refine RD.iast (pc := 138) (n := 1024) (128 * s + q) dX6_works_138 (ok15 (by decide)) rfl rfl (by omega) (by decide) ?_
  refine RD.goto (pc := 139) 281 dX6_works_139 (by decide) ?_
  refine RD.ret (pc := 281) ⟨rfl, dX6_works_281⟩ ?_
  exact ⟨rfl, rfl⟩

set_option maxRecDepth 20000 in
set_option maxHeartbeats 1000000 in
theorem m_works6 (K : EK) (d : Nat) {s q : Nat} (hs : s < 8) (hq : q < 128) (D : DT) : CF K mX6_works (d + 2) [rR (14, 0, 0), rI (nI s), rI 6, rI (nI (128 * s + q))] D (none) (up D (15, 1, 0) s (D (15, 1, 0) s + D (15, 0, 0) (128 * s + q))) := by
  refine CF.of [some (rR (14, 0, 0)), some (rI (nI s)), some (rI 6), some (rI (nI (128 * s + q))), none] (by decide) (leb rfl) rfl ?_
  refine RD.aload_n (pc := 0) dX6_works_0 rfl ?_
  refine RD.getR (pc := 1) dX6_works_1 flX6_9 ok14 rfl rfl ?_
  refine RD.iload_n (pc := 4) dX6_works_4 rfl ?_
  refine RD.iL (pc := 5) (n := 1024) (128 * s + q) (v := D (15, 0, 0) (128 * s + q)) rfl dX6_works_5 (ok15 (by decide)) rfl rfl (by omega) (by decide) ?_
  refine RD.istore (pc := 6) (ls' := [some (rR (14, 0, 0)), some (rI (nI s)), some (rI 6), some (rI (nI (128 * s + q))), some (rI (D (15, 0, 0) (128 * s + q)))]) dX6_works_6 (by decide) rfl ?_
  refine RD.iload_n (pc := 8) dX6_works_8 rfl ?_
  refine RD.iconst (pc := 9) (v := 4) dX6_works_9 (by decide) ?_
  refine RD.icmp_eq (pc := 10) 18 dX6_works_10 (by decide) (fun c10 => absurd c10 (by decide)) (fun c10 => ?_)
  refine RD.iload_n (pc := 13) dX6_works_13 rfl ?_
  refine RD.iconst (pc := 14) (v := 5) dX6_works_14 (by decide) ?_
  refine RD.icmp_ne (pc := 15) 33 dX6_works_15 (by decide) (fun c15 => ?_) (fun c15 => absurd c15 (by decide))
  refine RD.iload_n (pc := 33) dX6_works_33 rfl ?_
  refine RD.bipush (pc := 34) (v := 9) dX6_works_34 (by decide) ?_
  refine RD.icmp_eq (pc := 36) 45 dX6_works_36 (by decide) (fun c36 => absurd c36 (by decide)) (fun c36 => ?_)
  refine RD.iload_n (pc := 39) dX6_works_39 rfl ?_
  refine RD.bipush (pc := 40) (v := 10) dX6_works_40 (by decide) ?_
  refine RD.icmp_ne (pc := 42) 57 dX6_works_42 (by decide) (fun c42 => ?_) (fun c42 => absurd c42 (by decide))
  refine RD.iload_n (pc := 57) dX6_works_57 rfl ?_
  refine RD.tableIn (pc := 58) 186 dX6_works_58 (by decide) (by decide) rfl (by decide) ?_
  refine RD.aload_n (pc := 186) dX6_works_186 rfl ?_
  refine RD.getR (pc := 187) dX6_works_187 flX6_13 ok14 rfl rfl ?_
  refine RD.iload_n (pc := 190) dX6_works_190 rfl ?_
  refine RD.dup2 (pc := 191) dX6_works_191 ?_
  refine RD.iL (pc := 192) (n := 8) s (v := D (15, 1, 0) s) rfl dX6_works_192 (ok15 (by decide)) rfl rfl hs (by decide) ?_
  refine RD.iload (pc := 193) dX6_works_193 rfl ?_
  refine RD.iadd (pc := 195) dX6_works_195 ?_
  refine RD.iast (pc := 196) (n := 8) s dX6_works_196 (ok15 (by decide)) rfl rfl hs (by decide) ?_
  refine RD.goto (pc := 197) 281 dX6_works_197 (by decide) ?_
  refine RD.ret (pc := 281) ⟨rfl, dX6_works_281⟩ ?_
  exact ⟨rfl, rfl⟩

set_option maxRecDepth 20000 in
set_option maxHeartbeats 1000000 in
theorem m_works7 (K : EK) (d : Nat) {s q : Nat} (hs : s < 8) (hq : q < 128) (D : DT) : CF K mX6_works (d + 2) [rR (14, 0, 0), rI (nI s), rI 7, rI (nI (128 * s + q))] D (none) (up D (15, 1, 0) s (D (15, 1, 0) s - D (15, 0, 0) (128 * s + q))) := by
  refine CF.of [some (rR (14, 0, 0)), some (rI (nI s)), some (rI 7), some (rI (nI (128 * s + q))), none] (by decide) (leb rfl) rfl ?_
  refine RD.aload_n (pc := 0) dX6_works_0 rfl ?_
  refine RD.getR (pc := 1) dX6_works_1 flX6_9 ok14 rfl rfl ?_
  refine RD.iload_n (pc := 4) dX6_works_4 rfl ?_
  refine RD.iL (pc := 5) (n := 1024) (128 * s + q) (v := D (15, 0, 0) (128 * s + q)) rfl dX6_works_5 (ok15 (by decide)) rfl rfl (by omega) (by decide) ?_
  refine RD.istore (pc := 6) (ls' := [some (rR (14, 0, 0)), some (rI (nI s)), some (rI 7), some (rI (nI (128 * s + q))), some (rI (D (15, 0, 0) (128 * s + q)))]) dX6_works_6 (by decide) rfl ?_
  refine RD.iload_n (pc := 8) dX6_works_8 rfl ?_
  refine RD.iconst (pc := 9) (v := 4) dX6_works_9 (by decide) ?_
  refine RD.icmp_eq (pc := 10) 18 dX6_works_10 (by decide) (fun c10 => absurd c10 (by decide)) (fun c10 => ?_)
  refine RD.iload_n (pc := 13) dX6_works_13 rfl ?_
  refine RD.iconst (pc := 14) (v := 5) dX6_works_14 (by decide) ?_
  refine RD.icmp_ne (pc := 15) 33 dX6_works_15 (by decide) (fun c15 => ?_) (fun c15 => absurd c15 (by decide))
  refine RD.iload_n (pc := 33) dX6_works_33 rfl ?_
  refine RD.bipush (pc := 34) (v := 9) dX6_works_34 (by decide) ?_
  refine RD.icmp_eq (pc := 36) 45 dX6_works_36 (by decide) (fun c36 => absurd c36 (by decide)) (fun c36 => ?_)
  refine RD.iload_n (pc := 39) dX6_works_39 rfl ?_
  refine RD.bipush (pc := 40) (v := 10) dX6_works_40 (by decide) ?_
  refine RD.icmp_ne (pc := 42) 57 dX6_works_42 (by decide) (fun c42 => ?_) (fun c42 => absurd c42 (by decide))
  refine RD.iload_n (pc := 57) dX6_works_57 rfl ?_
  refine RD.tableIn (pc := 58) 200 dX6_works_58 (by decide) (by decide) rfl (by decide) ?_
  refine RD.aload_n (pc := 200) dX6_works_200 rfl ?_
  refine RD.getR (pc := 201) dX6_works_201 flX6_13 ok14 rfl rfl ?_
  refine RD.iload_n (pc := 204) dX6_works_204 rfl ?_
  refine RD.dup2 (pc := 205) dX6_works_205 ?_
  refine RD.iL (pc := 206) (n := 8) s (v := D (15, 1, 0) s) rfl dX6_works_206 (ok15 (by decide)) rfl rfl hs (by decide) ?_
  refine RD.iload (pc := 207) dX6_works_207 rfl ?_
  refine RD.isub (pc := 209) dX6_works_209 ?_
  refine RD.iast (pc := 210) (n := 8) s dX6_works_210 (ok15 (by decide)) rfl rfl hs (by decide) ?_
  refine RD.goto (pc := 211) 281 dX6_works_211 (by decide) ?_
  refine RD.ret (pc := 281) ⟨rfl, dX6_works_281⟩ ?_
  exact ⟨rfl, rfl⟩

set_option maxRecDepth 20000 in
set_option maxHeartbeats 1000000 in
theorem m_works8 (K : EK) (d : Nat) {s q : Nat} (hs : s < 8) (hq : q < 128) (D : DT) : CF K mX6_works (d + 2) [rR (14, 0, 0), rI (nI s), rI 8, rI (nI (128 * s + q))] D (none) (up D (15, 1, 0) s (D (15, 1, 0) s * D (15, 0, 0) (128 * s + q))) := by
  refine CF.of [some (rR (14, 0, 0)), some (rI (nI s)), some (rI 8), some (rI (nI (128 * s + q))), none] (by decide) (leb rfl) rfl ?_
  refine RD.aload_n (pc := 0) dX6_works_0 rfl ?_
  refine RD.getR (pc := 1) dX6_works_1 flX6_9 ok14 rfl rfl ?_
  refine RD.iload_n (pc := 4) dX6_works_4 rfl ?_
  refine RD.iL (pc := 5) (n := 1024) (128 * s + q) (v := D (15, 0, 0) (128 * s + q)) rfl dX6_works_5 (ok15 (by decide)) rfl rfl (by omega) (by decide) ?_
  refine RD.istore (pc := 6) (ls' := [some (rR (14, 0, 0)), some (rI (nI s)), some (rI 8), some (rI (nI (128 * s + q))), some (rI (D (15, 0, 0) (128 * s + q)))]) dX6_works_6 (by decide) rfl ?_
  refine RD.iload_n (pc := 8) dX6_works_8 rfl ?_
  refine RD.iconst (pc := 9) (v := 4) dX6_works_9 (by decide) ?_
  refine RD.icmp_eq (pc := 10) 18 dX6_works_10 (by decide) (fun c10 => absurd c10 (by decide)) (fun c10 => ?_)
  refine RD.iload_n (pc := 13) dX6_works_13 rfl ?_
  refine RD.iconst (pc := 14) (v := 5) dX6_works_14 (by decide) ?_
  refine RD.icmp_ne (pc := 15) 33 dX6_works_15 (by decide) (fun c15 => ?_) (fun c15 => absurd c15 (by decide))
  refine RD.iload_n (pc := 33) dX6_works_33 rfl ?_
  refine RD.bipush (pc := 34) (v := 9) dX6_works_34 (by decide) ?_
  refine RD.icmp_eq (pc := 36) 45 dX6_works_36 (by decide) (fun c36 => absurd c36 (by decide)) (fun c36 => ?_)
  refine RD.iload_n (pc := 39) dX6_works_39 rfl ?_
  refine RD.bipush (pc := 40) (v := 10) dX6_works_40 (by decide) ?_
  refine RD.icmp_ne (pc := 42) 57 dX6_works_42 (by decide) (fun c42 => ?_) (fun c42 => absurd c42 (by decide))
  refine RD.iload_n (pc := 57) dX6_works_57 rfl ?_
  refine RD.tableIn (pc := 58) 214 dX6_works_58 (by decide) (by decide) rfl (by decide) ?_
  refine RD.aload_n (pc := 214) dX6_works_214 rfl ?_
  refine RD.getR (pc := 215) dX6_works_215 flX6_13 ok14 rfl rfl ?_
  refine RD.iload_n (pc := 218) dX6_works_218 rfl ?_
  refine RD.dup2 (pc := 219) dX6_works_219 ?_
  refine RD.iL (pc := 220) (n := 8) s (v := D (15, 1, 0) s) rfl dX6_works_220 (ok15 (by decide)) rfl rfl hs (by decide) ?_
  refine RD.iload (pc := 221) dX6_works_221 rfl ?_
  refine RD.imul (pc := 223) dX6_works_223 ?_
  refine RD.iast (pc := 224) (n := 8) s dX6_works_224 (ok15 (by decide)) rfl rfl hs (by decide) ?_
  refine RD.goto (pc := 225) 281 dX6_works_225 (by decide) ?_
  refine RD.ret (pc := 281) ⟨rfl, dX6_works_281⟩ ?_
  exact ⟨rfl, rfl⟩

set_option maxRecDepth 20000 in
set_option maxHeartbeats 1000000 in
theorem m_works11 (K : EK) (d : Nat) {s q : Nat} (hs : s < 8) (hq : q < 128) (D : DT) : CF K mX6_works (d + 2) [rR (14, 0, 0), rI (nI s), rI 11, rI (nI (128 * s + q))] D (none) (up D (15, 1, 0) s (D (15, 1, 0) s &&& D (15, 0, 0) (128 * s + q))) := by
  refine CF.of [some (rR (14, 0, 0)), some (rI (nI s)), some (rI 11), some (rI (nI (128 * s + q))), none] (by decide) (leb rfl) rfl ?_
  refine RD.aload_n (pc := 0) dX6_works_0 rfl ?_
  refine RD.getR (pc := 1) dX6_works_1 flX6_9 ok14 rfl rfl ?_
  refine RD.iload_n (pc := 4) dX6_works_4 rfl ?_
  refine RD.iL (pc := 5) (n := 1024) (128 * s + q) (v := D (15, 0, 0) (128 * s + q)) rfl dX6_works_5 (ok15 (by decide)) rfl rfl (by omega) (by decide) ?_
  refine RD.istore (pc := 6) (ls' := [some (rR (14, 0, 0)), some (rI (nI s)), some (rI 11), some (rI (nI (128 * s + q))), some (rI (D (15, 0, 0) (128 * s + q)))]) dX6_works_6 (by decide) rfl ?_
  refine RD.iload_n (pc := 8) dX6_works_8 rfl ?_
  refine RD.iconst (pc := 9) (v := 4) dX6_works_9 (by decide) ?_
  refine RD.icmp_eq (pc := 10) 18 dX6_works_10 (by decide) (fun c10 => absurd c10 (by decide)) (fun c10 => ?_)
  refine RD.iload_n (pc := 13) dX6_works_13 rfl ?_
  refine RD.iconst (pc := 14) (v := 5) dX6_works_14 (by decide) ?_
  refine RD.icmp_ne (pc := 15) 33 dX6_works_15 (by decide) (fun c15 => ?_) (fun c15 => absurd c15 (by decide))
  refine RD.iload_n (pc := 33) dX6_works_33 rfl ?_
  refine RD.bipush (pc := 34) (v := 9) dX6_works_34 (by decide) ?_
  refine RD.icmp_eq (pc := 36) 45 dX6_works_36 (by decide) (fun c36 => absurd c36 (by decide)) (fun c36 => ?_)
  refine RD.iload_n (pc := 39) dX6_works_39 rfl ?_
  refine RD.bipush (pc := 40) (v := 10) dX6_works_40 (by decide) ?_
  refine RD.icmp_ne (pc := 42) 57 dX6_works_42 (by decide) (fun c42 => ?_) (fun c42 => absurd c42 (by decide))
  refine RD.iload_n (pc := 57) dX6_works_57 rfl ?_
  refine RD.tableIn (pc := 58) 256 dX6_works_58 (by decide) (by decide) rfl (by decide) ?_
  refine RD.aload_n (pc := 256) dX6_works_256 rfl ?_
  refine RD.getR (pc := 257) dX6_works_257 flX6_13 ok14 rfl rfl ?_
  refine RD.iload_n (pc := 260) dX6_works_260 rfl ?_
  refine RD.dup2 (pc := 261) dX6_works_261 ?_
  refine RD.iL (pc := 262) (n := 8) s (v := D (15, 1, 0) s) rfl dX6_works_262 (ok15 (by decide)) rfl rfl hs (by decide) ?_
  refine RD.iload (pc := 263) dX6_works_263 rfl ?_
  refine RD.iand (pc := 265) dX6_works_265 ?_
  refine RD.iast (pc := 266) (n := 8) s dX6_works_266 (ok15 (by decide)) rfl rfl hs (by decide) ?_
  refine RD.goto (pc := 267) 281 dX6_works_267 (by decide) ?_
  refine RD.ret (pc := 281) ⟨rfl, dX6_works_281⟩ ?_
  exact ⟨rfl, rfl⟩

set_option maxRecDepth 20000 in
set_option maxHeartbeats 1000000 in
theorem m_works12 (K : EK) (d : Nat) {s q : Nat} (hs : s < 8) (hq : q < 128) (D : DT) : CF K mX6_works (d + 2) [rR (14, 0, 0), rI (nI s), rI 12, rI (nI (128 * s + q))] D (none) (up D (15, 1, 0) s (D (15, 1, 0) s ^^^ D (15, 0, 0) (128 * s + q))) := by
  refine CF.of [some (rR (14, 0, 0)), some (rI (nI s)), some (rI 12), some (rI (nI (128 * s + q))), none] (by decide) (leb rfl) rfl ?_
  refine RD.aload_n (pc := 0) dX6_works_0 rfl ?_
  refine RD.getR (pc := 1) dX6_works_1 flX6_9 ok14 rfl rfl ?_
  refine RD.iload_n (pc := 4) dX6_works_4 rfl ?_
  refine RD.iL (pc := 5) (n := 1024) (128 * s + q) (v := D (15, 0, 0) (128 * s + q)) rfl dX6_works_5 (ok15 (by decide)) rfl rfl (by omega) (by decide) ?_
  refine RD.istore (pc := 6) (ls' := [some (rR (14, 0, 0)), some (rI (nI s)), some (rI 12), some (rI (nI (128 * s + q))), some (rI (D (15, 0, 0) (128 * s + q)))]) dX6_works_6 (by decide) rfl ?_
  refine RD.iload_n (pc := 8) dX6_works_8 rfl ?_
  refine RD.iconst (pc := 9) (v := 4) dX6_works_9 (by decide) ?_
  refine RD.icmp_eq (pc := 10) 18 dX6_works_10 (by decide) (fun c10 => absurd c10 (by decide)) (fun c10 => ?_)
  refine RD.iload_n (pc := 13) dX6_works_13 rfl ?_
  refine RD.iconst (pc := 14) (v := 5) dX6_works_14 (by decide) ?_
  refine RD.icmp_ne (pc := 15) 33 dX6_works_15 (by decide) (fun c15 => ?_) (fun c15 => absurd c15 (by decide))
  refine RD.iload_n (pc := 33) dX6_works_33 rfl ?_
  refine RD.bipush (pc := 34) (v := 9) dX6_works_34 (by decide) ?_
  refine RD.icmp_eq (pc := 36) 45 dX6_works_36 (by decide) (fun c36 => absurd c36 (by decide)) (fun c36 => ?_)
  refine RD.iload_n (pc := 39) dX6_works_39 rfl ?_
  refine RD.bipush (pc := 40) (v := 10) dX6_works_40 (by decide) ?_
  refine RD.icmp_ne (pc := 42) 57 dX6_works_42 (by decide) (fun c42 => ?_) (fun c42 => absurd c42 (by decide))
  refine RD.iload_n (pc := 57) dX6_works_57 rfl ?_
  refine RD.tableOut (pc := 58) 270 dX6_works_58 (by decide) (by decide) ?_
  refine RD.aload_n (pc := 270) dX6_works_270 rfl ?_
  refine RD.getR (pc := 271) dX6_works_271 flX6_13 ok14 rfl rfl ?_
  refine RD.iload_n (pc := 274) dX6_works_274 rfl ?_
  refine RD.dup2 (pc := 275) dX6_works_275 ?_
  refine RD.iL (pc := 276) (n := 8) s (v := D (15, 1, 0) s) rfl dX6_works_276 (ok15 (by decide)) rfl rfl hs (by decide) ?_
  refine RD.iload (pc := 277) dX6_works_277 rfl ?_
  refine RD.ixor (pc := 279) dX6_works_279 ?_
  refine RD.iast (pc := 280) (n := 8) s dX6_works_280 (ok15 (by decide)) rfl rfl hs (by decide) ?_
  refine RD.ret (pc := 281) ⟨rfl, dX6_works_281⟩ ?_
  exact ⟨rfl, rfl⟩

set_option maxRecDepth 20000 in
set_option maxHeartbeats 1000000 in
theorem m_works4N (K : EK) (d : Nat) {s q : Nat} (hs : s < 8) (hq : q < 128) (D : DT) (h : inR (D (15, 0, 0) (128 * s + q)) 128 = false) : CF K mX6_works (d + 2) [rR (14, 0, 0), rI (nI s), rI 4, rI (nI (128 * s + q))] D (none) (mTrap D s 2) := by
  refine CF.of [some (rR (14, 0, 0)), some (rI (nI s)), some (rI 4), some (rI (nI (128 * s + q))), none] (by decide) (leb rfl) rfl ?_
  refine RD.aload_n (pc := 0) dX6_works_0 rfl ?_
  refine RD.getR (pc := 1) dX6_works_1 flX6_9 ok14 rfl rfl ?_
  refine RD.iload_n (pc := 4) dX6_works_4 rfl ?_
  refine RD.iL (pc := 5) (n := 1024) (128 * s + q) (v := D (15, 0, 0) (128 * s + q)) rfl dX6_works_5 (ok15 (by decide)) rfl rfl (by omega) (by decide) ?_
  refine RD.istore (pc := 6) (ls' := [some (rR (14, 0, 0)), some (rI (nI s)), some (rI 4), some (rI (nI (128 * s + q))), some (rI (D (15, 0, 0) (128 * s + q)))]) dX6_works_6 (by decide) rfl ?_
  refine RD.iload_n (pc := 8) dX6_works_8 rfl ?_
  refine RD.iconst (pc := 9) (v := 4) dX6_works_9 (by decide) ?_
  refine RD.icmp_eq (pc := 10) 18 dX6_works_10 (by decide) (fun c10 => ?_) (fun c10 => absurd (by decide) c10)
  refine RD.iload (pc := 18) dX6_works_18 rfl ?_
  refine RD.cS1 (pc := 20) dX6_works_20 mlX6_87 (c_mIsCell K _ D (D (15, 0, 0) (128 * s + q))) (leb rfl) ?_
  refine RD.if_ne (pc := 23) 33 dX6_works_23 (by decide) (fun c23 => absurd (bIout h) c23) (fun c23 => ?_)
  refine RD.aload_n (pc := 26) dX6_works_26 rfl ?_
  refine RD.iload_n (pc := 27) dX6_works_27 rfl ?_
  refine RD.iconst (pc := 28) (v := 2) dX6_works_28 (by decide) ?_
  refine RD.cV2v (pc := 29) dX6_works_29 mlX6_90 rfl ok14 rfl (c_traps K _ (s := s) (by omega) D 2) (leb rfl) ?_
  refine RD.ret (pc := 32) ⟨rfl, dX6_works_32⟩ ?_
  exact ⟨rfl, rfl⟩

set_option maxRecDepth 20000 in
set_option maxHeartbeats 1000000 in
theorem m_works4 (K : EK) (d : Nat) {s q : Nat} (hs : s < 8) (hq : q < 128) (D : DT) {e : Nat} (he : e < 128) (h : D (15, 0, 0) (128 * s + q) = nI e) : CF K mX6_works (d + 2) [rR (14, 0, 0), rI (nI s), rI 4, rI (nI (128 * s + q))] D (none) (up D (15, 1, 0) s (D (15, 0, 0) (128 * s + e))) := by
  refine CF.of [some (rR (14, 0, 0)), some (rI (nI s)), some (rI 4), some (rI (nI (128 * s + q))), none] (by decide) (leb rfl) rfl ?_
  refine RD.aload_n (pc := 0) dX6_works_0 rfl ?_
  refine RD.getR (pc := 1) dX6_works_1 flX6_9 ok14 rfl rfl ?_
  refine RD.iload_n (pc := 4) dX6_works_4 rfl ?_
  refine RD.iL (pc := 5) (n := 1024) (128 * s + q) (v := nI e) h dX6_works_5 (ok15 (by decide)) rfl rfl (by omega) (by decide) ?_
  refine RD.istore (pc := 6) (ls' := [some (rR (14, 0, 0)), some (rI (nI s)), some (rI 4), some (rI (nI (128 * s + q))), some (rI (nI e))]) dX6_works_6 (by decide) rfl ?_
  refine RD.iload_n (pc := 8) dX6_works_8 rfl ?_
  refine RD.iconst (pc := 9) (v := 4) dX6_works_9 (by decide) ?_
  refine RD.icmp_eq (pc := 10) 18 dX6_works_10 (by decide) (fun c10 => ?_) (fun c10 => absurd (by decide) c10)
  refine RD.iload (pc := 18) dX6_works_18 rfl ?_
  refine RD.cS1 (pc := 20) dX6_works_20 mlX6_87 (c_mIsCell K _ D (nI e)) (leb rfl) ?_
  refine RD.if_ne (pc := 23) 33 dX6_works_23 (by decide) (fun c23 => ?_) (fun c23 => absurd c23 (bIin (by decide) he))
  refine RD.iload_n (pc := 33) dX6_works_33 rfl ?_
  refine RD.bipush (pc := 34) (v := 9) dX6_works_34 (by decide) ?_
  refine RD.icmp_eq (pc := 36) 45 dX6_works_36 (by decide) (fun c36 => absurd c36 (by decide)) (fun c36 => ?_)
  refine RD.iload_n (pc := 39) dX6_works_39 rfl ?_
  refine RD.bipush (pc := 40) (v := 10) dX6_works_40 (by decide) ?_
  refine RD.icmp_ne (pc := 42) 57 dX6_works_42 (by decide) (fun c42 => ?_) (fun c42 => absurd c42 (by decide))
  refine RD.iload_n (pc := 57) dX6_works_57 rfl ?_
  refine RD.tableIn (pc := 58) 142 dX6_works_58 (by decide) (by decide) rfl (by decide) ?_
  refine RD.aload_n (pc := 142) dX6_works_142 rfl ?_
  refine RD.getR (pc := 143) dX6_works_143 flX6_13 ok14 rfl rfl ?_
  refine RD.iload_n (pc := 146) dX6_works_146 rfl ?_
  refine RD.aload_n (pc := 147) dX6_works_147 rfl ?_
  refine RD.getR (pc := 148) dX6_works_148 flX6_9 ok14 rfl rfl ?_
  refine RD.sipush (pc := 151) (v := 128) dX6_works_151 (by decide) ?_
  refine RD.iload_n (pc := 154) dX6_works_154 rfl ?_
  refine RD.imul (pc := 155) dX6_works_155 ?_
  refine RD.eqI (pk_mul 128 s) ?_
  refine RD.iload (pc := 156) dX6_works_156 rfl ?_
  refine RD.iadd (pc := 158) dX6_works_158 ?_
  refine RD.eqI (nI_add (128 * s) e) ?_
  refine RD.iL (pc := 159) (n := 1024) ((128 * s) + e) (v := D (15, 0, 0) ((128 * s) + e)) rfl dX6_works_159 (ok15 (by decide)) rfl rfl (by omega) (by decide) ?_
  refine RD.iast (pc := 160) (n := 8) s dX6_works_160 (ok15 (by decide)) rfl rfl hs (by decide) ?_
  refine RD.goto (pc := 161) 281 dX6_works_161 (by decide) ?_
  refine RD.ret (pc := 281) ⟨rfl, dX6_works_281⟩ ?_
  exact ⟨rfl, rfl⟩

set_option maxRecDepth 20000 in
set_option maxHeartbeats 1000000 in
theorem m_works5N (K : EK) (d : Nat) {s q : Nat} (hs : s < 8) (hq : q < 128) (D : DT) (h : inR (D (15, 0, 0) (128 * s + q)) 128 = false) : CF K mX6_works (d + 2) [rR (14, 0, 0), rI (nI s), rI 5, rI (nI (128 * s + q))] D (none) (mTrap D s 2) := by
  refine CF.of [some (rR (14, 0, 0)), some (rI (nI s)), some (rI 5), some (rI (nI (128 * s + q))), none] (by decide) (leb rfl) rfl ?_
  refine RD.aload_n (pc := 0) dX6_works_0 rfl ?_
  refine RD.getR (pc := 1) dX6_works_1 flX6_9 ok14 rfl rfl ?_
  refine RD.iload_n (pc := 4) dX6_works_4 rfl ?_
  refine RD.iL (pc := 5) (n := 1024) (128 * s + q) (v := D (15, 0, 0) (128 * s + q)) rfl dX6_works_5 (ok15 (by decide)) rfl rfl (by omega) (by decide) ?_
  refine RD.istore (pc := 6) (ls' := [some (rR (14, 0, 0)), some (rI (nI s)), some (rI 5), some (rI (nI (128 * s + q))), some (rI (D (15, 0, 0) (128 * s + q)))]) dX6_works_6 (by decide) rfl ?_
  refine RD.iload_n (pc := 8) dX6_works_8 rfl ?_
  refine RD.iconst (pc := 9) (v := 4) dX6_works_9 (by decide) ?_
  refine RD.icmp_eq (pc := 10) 18 dX6_works_10 (by decide) (fun c10 => absurd c10 (by decide)) (fun c10 => ?_)
  refine RD.iload_n (pc := 13) dX6_works_13 rfl ?_
  refine RD.iconst (pc := 14) (v := 5) dX6_works_14 (by decide) ?_
  refine RD.icmp_ne (pc := 15) 33 dX6_works_15 (by decide) (fun c15 => absurd (by decide) c15) (fun c15 => ?_)
  refine RD.iload (pc := 18) dX6_works_18 rfl ?_
  refine RD.cS1 (pc := 20) dX6_works_20 mlX6_87 (c_mIsCell K _ D (D (15, 0, 0) (128 * s + q))) (leb rfl) ?_
  refine RD.if_ne (pc := 23) 33 dX6_works_23 (by decide) (fun c23 => absurd (bIout h) c23) (fun c23 => ?_)
  refine RD.aload_n (pc := 26) dX6_works_26 rfl ?_
  refine RD.iload_n (pc := 27) dX6_works_27 rfl ?_
  refine RD.iconst (pc := 28) (v := 2) dX6_works_28 (by decide) ?_
  refine RD.cV2v (pc := 29) dX6_works_29 mlX6_90 rfl ok14 rfl (c_traps K _ (s := s) (by omega) D 2) (leb rfl) ?_
  refine RD.ret (pc := 32) ⟨rfl, dX6_works_32⟩ ?_
  exact ⟨rfl, rfl⟩

set_option maxRecDepth 20000 in
set_option maxHeartbeats 1000000 in
theorem m_works5 (K : EK) (d : Nat) {s q : Nat} (hs : s < 8) (hq : q < 128) (D : DT) {e : Nat} (he : e < 128) (h : D (15, 0, 0) (128 * s + q) = nI e) : CF K mX6_works (d + 2) [rR (14, 0, 0), rI (nI s), rI 5, rI (nI (128 * s + q))] D (none) (up D (15, 0, 0) (128 * s + e) (D (15, 1, 0) s)) := by
  refine CF.of [some (rR (14, 0, 0)), some (rI (nI s)), some (rI 5), some (rI (nI (128 * s + q))), none] (by decide) (leb rfl) rfl ?_
  refine RD.aload_n (pc := 0) dX6_works_0 rfl ?_
  refine RD.getR (pc := 1) dX6_works_1 flX6_9 ok14 rfl rfl ?_
  refine RD.iload_n (pc := 4) dX6_works_4 rfl ?_
  refine RD.iL (pc := 5) (n := 1024) (128 * s + q) (v := nI e) h dX6_works_5 (ok15 (by decide)) rfl rfl (by omega) (by decide) ?_
  refine RD.istore (pc := 6) (ls' := [some (rR (14, 0, 0)), some (rI (nI s)), some (rI 5), some (rI (nI (128 * s + q))), some (rI (nI e))]) dX6_works_6 (by decide) rfl ?_
  refine RD.iload_n (pc := 8) dX6_works_8 rfl ?_
  refine RD.iconst (pc := 9) (v := 4) dX6_works_9 (by decide) ?_
  refine RD.icmp_eq (pc := 10) 18 dX6_works_10 (by decide) (fun c10 => absurd c10 (by decide)) (fun c10 => ?_)
  refine RD.iload_n (pc := 13) dX6_works_13 rfl ?_
  refine RD.iconst (pc := 14) (v := 5) dX6_works_14 (by decide) ?_
  refine RD.icmp_ne (pc := 15) 33 dX6_works_15 (by decide) (fun c15 => absurd (by decide) c15) (fun c15 => ?_)
  refine RD.iload (pc := 18) dX6_works_18 rfl ?_
  refine RD.cS1 (pc := 20) dX6_works_20 mlX6_87 (c_mIsCell K _ D (nI e)) (leb rfl) ?_
  refine RD.if_ne (pc := 23) 33 dX6_works_23 (by decide) (fun c23 => ?_) (fun c23 => absurd c23 (bIin (by decide) he))
  refine RD.iload_n (pc := 33) dX6_works_33 rfl ?_
  refine RD.bipush (pc := 34) (v := 9) dX6_works_34 (by decide) ?_
  refine RD.icmp_eq (pc := 36) 45 dX6_works_36 (by decide) (fun c36 => absurd c36 (by decide)) (fun c36 => ?_)
  refine RD.iload_n (pc := 39) dX6_works_39 rfl ?_
  refine RD.bipush (pc := 40) (v := 10) dX6_works_40 (by decide) ?_
  refine RD.icmp_ne (pc := 42) 57 dX6_works_42 (by decide) (fun c42 => ?_) (fun c42 => absurd c42 (by decide))
  refine RD.iload_n (pc := 57) dX6_works_57 rfl ?_
  refine RD.tableIn (pc := 58) 164 dX6_works_58 (by decide) (by decide) rfl (by decide) ?_
  refine RD.aload_n (pc := 164) dX6_works_164 rfl ?_
  refine RD.getR (pc := 165) dX6_works_165 flX6_9 ok14 rfl rfl ?_
  refine RD.sipush (pc := 168) (v := 128) dX6_works_168 (by decide) ?_
  refine RD.iload_n (pc := 171) dX6_works_171 rfl ?_
  refine RD.imul (pc := 172) dX6_works_172 ?_
  refine RD.eqI (pk_mul 128 s) ?_
  refine RD.iload (pc := 173) dX6_works_173 rfl ?_
  refine RD.iadd (pc := 175) dX6_works_175 ?_
  refine RD.eqI (nI_add (128 * s) e) ?_
  refine RD.aload_n (pc := 176) dX6_works_176 rfl ?_
  refine RD.getR (pc := 177) dX6_works_177 flX6_13 ok14 rfl rfl ?_
  refine RD.iload_n (pc := 180) dX6_works_180 rfl ?_
  refine RD.iL (pc := 181) (n := 8) s (v := D (15, 1, 0) s) rfl dX6_works_181 (ok15 (by decide)) rfl rfl hs (by decide) ?_
  refine RD.iast (pc := 182) (n := 1024) ((128 * s) + e) dX6_works_182 (ok15 (by decide)) rfl rfl (by omega) (by decide) ?_
  refine RD.goto (pc := 183) 281 dX6_works_183 (by decide) ?_
  refine RD.ret (pc := 281) ⟨rfl, dX6_works_281⟩ ?_
  exact ⟨rfl, rfl⟩

set_option maxRecDepth 20000 in
set_option maxHeartbeats 1000000 in
theorem m_works9N (K : EK) (d : Nat) {s q : Nat} (hs : s < 8) (hq : q < 128) (D : DT) (h : D (15, 0, 0) (128 * s + q) = 0) : CF K mX6_works (d + 2) [rR (14, 0, 0), rI (nI s), rI 9, rI (nI (128 * s + q))] D (none) (mTrap D s 3) := by
  refine CF.of [some (rR (14, 0, 0)), some (rI (nI s)), some (rI 9), some (rI (nI (128 * s + q))), none] (by decide) (leb rfl) rfl ?_
  refine RD.aload_n (pc := 0) dX6_works_0 rfl ?_
  refine RD.getR (pc := 1) dX6_works_1 flX6_9 ok14 rfl rfl ?_
  refine RD.iload_n (pc := 4) dX6_works_4 rfl ?_
  refine RD.iL (pc := 5) (n := 1024) (128 * s + q) (v := D (15, 0, 0) (128 * s + q)) rfl dX6_works_5 (ok15 (by decide)) rfl rfl (by omega) (by decide) ?_
  refine RD.istore (pc := 6) (ls' := [some (rR (14, 0, 0)), some (rI (nI s)), some (rI 9), some (rI (nI (128 * s + q))), some (rI (D (15, 0, 0) (128 * s + q)))]) dX6_works_6 (by decide) rfl ?_
  refine RD.iload_n (pc := 8) dX6_works_8 rfl ?_
  refine RD.iconst (pc := 9) (v := 4) dX6_works_9 (by decide) ?_
  refine RD.icmp_eq (pc := 10) 18 dX6_works_10 (by decide) (fun c10 => absurd c10 (by decide)) (fun c10 => ?_)
  refine RD.iload_n (pc := 13) dX6_works_13 rfl ?_
  refine RD.iconst (pc := 14) (v := 5) dX6_works_14 (by decide) ?_
  refine RD.icmp_ne (pc := 15) 33 dX6_works_15 (by decide) (fun c15 => ?_) (fun c15 => absurd c15 (by decide))
  refine RD.iload_n (pc := 33) dX6_works_33 rfl ?_
  refine RD.bipush (pc := 34) (v := 9) dX6_works_34 (by decide) ?_
  refine RD.icmp_eq (pc := 36) 45 dX6_works_36 (by decide) (fun c36 => ?_) (fun c36 => absurd (by decide) c36)
  refine RD.iload (pc := 45) dX6_works_45 rfl ?_
  refine RD.if_ne (pc := 47) 57 dX6_works_47 (by decide) (fun c47 => absurd h c47) (fun c47 => ?_)
  refine RD.aload_n (pc := 50) dX6_works_50 rfl ?_
  refine RD.iload_n (pc := 51) dX6_works_51 rfl ?_
  refine RD.iconst (pc := 52) (v := 3) dX6_works_52 (by decide) ?_
  refine RD.cV2v (pc := 53) dX6_works_53 mlX6_90 rfl ok14 rfl (c_traps K _ (s := s) (by omega) D 3) (leb rfl) ?_
  refine RD.ret (pc := 56) ⟨rfl, dX6_works_56⟩ ?_
  exact ⟨rfl, rfl⟩

set_option maxRecDepth 20000 in
set_option maxHeartbeats 1000000 in
theorem m_works9 (K : EK) (d : Nat) {s q : Nat} (hs : s < 8) (hq : q < 128) (D : DT) (h : ¬ D (15, 0, 0) (128 * s + q) = 0) : CF K mX6_works (d + 2) [rR (14, 0, 0), rI (nI s), rI 9, rI (nI (128 * s + q))] D (none) (up D (15, 1, 0) s (D (15, 1, 0) s / D (15, 0, 0) (128 * s + q))) := by
  refine CF.of [some (rR (14, 0, 0)), some (rI (nI s)), some (rI 9), some (rI (nI (128 * s + q))), none] (by decide) (leb rfl) rfl ?_
  refine RD.aload_n (pc := 0) dX6_works_0 rfl ?_
  refine RD.getR (pc := 1) dX6_works_1 flX6_9 ok14 rfl rfl ?_
  refine RD.iload_n (pc := 4) dX6_works_4 rfl ?_
  refine RD.iL (pc := 5) (n := 1024) (128 * s + q) (v := D (15, 0, 0) (128 * s + q)) rfl dX6_works_5 (ok15 (by decide)) rfl rfl (by omega) (by decide) ?_
  refine RD.istore (pc := 6) (ls' := [some (rR (14, 0, 0)), some (rI (nI s)), some (rI 9), some (rI (nI (128 * s + q))), some (rI (D (15, 0, 0) (128 * s + q)))]) dX6_works_6 (by decide) rfl ?_
  refine RD.iload_n (pc := 8) dX6_works_8 rfl ?_
  refine RD.iconst (pc := 9) (v := 4) dX6_works_9 (by decide) ?_
  refine RD.icmp_eq (pc := 10) 18 dX6_works_10 (by decide) (fun c10 => absurd c10 (by decide)) (fun c10 => ?_)
  refine RD.iload_n (pc := 13) dX6_works_13 rfl ?_
  refine RD.iconst (pc := 14) (v := 5) dX6_works_14 (by decide) ?_
  refine RD.icmp_ne (pc := 15) 33 dX6_works_15 (by decide) (fun c15 => ?_) (fun c15 => absurd c15 (by decide))
  refine RD.iload_n (pc := 33) dX6_works_33 rfl ?_
  refine RD.bipush (pc := 34) (v := 9) dX6_works_34 (by decide) ?_
  refine RD.icmp_eq (pc := 36) 45 dX6_works_36 (by decide) (fun c36 => ?_) (fun c36 => absurd (by decide) c36)
  refine RD.iload (pc := 45) dX6_works_45 rfl ?_
  refine RD.if_ne (pc := 47) 57 dX6_works_47 (by decide) (fun c47 => ?_) (fun c47 => absurd c47 h)
  refine RD.iload_n (pc := 57) dX6_works_57 rfl ?_
  refine RD.tableIn (pc := 58) 228 dX6_works_58 (by decide) (by decide) rfl (by decide) ?_
  refine RD.aload_n (pc := 228) dX6_works_228 rfl ?_
  refine RD.getR (pc := 229) dX6_works_229 flX6_13 ok14 rfl rfl ?_
  refine RD.iload_n (pc := 232) dX6_works_232 rfl ?_
  refine RD.dup2 (pc := 233) dX6_works_233 ?_
  refine RD.iL (pc := 234) (n := 8) s (v := D (15, 1, 0) s) rfl dX6_works_234 (ok15 (by decide)) rfl rfl hs (by decide) ?_
  refine RD.iload (pc := 235) dX6_works_235 rfl ?_
  refine RD.idiv (pc := 237) dX6_works_237 h ?_
  refine RD.iast (pc := 238) (n := 8) s dX6_works_238 (ok15 (by decide)) rfl rfl hs (by decide) ?_
  refine RD.goto (pc := 239) 281 dX6_works_239 (by decide) ?_
  refine RD.ret (pc := 281) ⟨rfl, dX6_works_281⟩ ?_
  exact ⟨rfl, rfl⟩

set_option maxRecDepth 20000 in
set_option maxHeartbeats 1000000 in
theorem m_works10N (K : EK) (d : Nat) {s q : Nat} (hs : s < 8) (hq : q < 128) (D : DT) (h : D (15, 0, 0) (128 * s + q) = 0) : CF K mX6_works (d + 2) [rR (14, 0, 0), rI (nI s), rI 10, rI (nI (128 * s + q))] D (none) (mTrap D s 3) := by
  refine CF.of [some (rR (14, 0, 0)), some (rI (nI s)), some (rI 10), some (rI (nI (128 * s + q))), none] (by decide) (leb rfl) rfl ?_
  refine RD.aload_n (pc := 0) dX6_works_0 rfl ?_
  refine RD.getR (pc := 1) dX6_works_1 flX6_9 ok14 rfl rfl ?_
  refine RD.iload_n (pc := 4) dX6_works_4 rfl ?_
  refine RD.iL (pc := 5) (n := 1024) (128 * s + q) (v := D (15, 0, 0) (128 * s + q)) rfl dX6_works_5 (ok15 (by decide)) rfl rfl (by omega) (by decide) ?_
  refine RD.istore (pc := 6) (ls' := [some (rR (14, 0, 0)), some (rI (nI s)), some (rI 10), some (rI (nI (128 * s + q))), some (rI (D (15, 0, 0) (128 * s + q)))]) dX6_works_6 (by decide) rfl ?_
  refine RD.iload_n (pc := 8) dX6_works_8 rfl ?_
  refine RD.iconst (pc := 9) (v := 4) dX6_works_9 (by decide) ?_
  refine RD.icmp_eq (pc := 10) 18 dX6_works_10 (by decide) (fun c10 => absurd c10 (by decide)) (fun c10 => ?_)
  refine RD.iload_n (pc := 13) dX6_works_13 rfl ?_
  refine RD.iconst (pc := 14) (v := 5) dX6_works_14 (by decide) ?_
  refine RD.icmp_ne (pc := 15) 33 dX6_works_15 (by decide) (fun c15 => ?_) (fun c15 => absurd c15 (by decide))
  refine RD.iload_n (pc := 33) dX6_works_33 rfl ?_
  refine RD.bipush (pc := 34) (v := 9) dX6_works_34 (by decide) ?_
  refine RD.icmp_eq (pc := 36) 45 dX6_works_36 (by decide) (fun c36 => absurd c36 (by decide)) (fun c36 => ?_)
  refine RD.iload_n (pc := 39) dX6_works_39 rfl ?_
  refine RD.bipush (pc := 40) (v := 10) dX6_works_40 (by decide) ?_
  refine RD.icmp_ne (pc := 42) 57 dX6_works_42 (by decide) (fun c42 => absurd (by decide) c42) (fun c42 => ?_)
  refine RD.iload (pc := 45) dX6_works_45 rfl ?_
  refine RD.if_ne (pc := 47) 57 dX6_works_47 (by decide) (fun c47 => absurd h c47) (fun c47 => ?_)
  refine RD.aload_n (pc := 50) dX6_works_50 rfl ?_
  refine RD.iload_n (pc := 51) dX6_works_51 rfl ?_
  refine RD.iconst (pc := 52) (v := 3) dX6_works_52 (by decide) ?_
  refine RD.cV2v (pc := 53) dX6_works_53 mlX6_90 rfl ok14 rfl (c_traps K _ (s := s) (by omega) D 3) (leb rfl) ?_
  refine RD.ret (pc := 56) ⟨rfl, dX6_works_56⟩ ?_
  exact ⟨rfl, rfl⟩

set_option maxRecDepth 20000 in
set_option maxHeartbeats 1000000 in
theorem m_works10 (K : EK) (d : Nat) {s q : Nat} (hs : s < 8) (hq : q < 128) (D : DT) (h : ¬ D (15, 0, 0) (128 * s + q) = 0) : CF K mX6_works (d + 2) [rR (14, 0, 0), rI (nI s), rI 10, rI (nI (128 * s + q))] D (none) (up D (15, 1, 0) s (D (15, 1, 0) s - D (15, 1, 0) s / D (15, 0, 0) (128 * s + q) * D (15, 0, 0) (128 * s + q))) := by
  refine CF.of [some (rR (14, 0, 0)), some (rI (nI s)), some (rI 10), some (rI (nI (128 * s + q))), none] (by decide) (leb rfl) rfl ?_
  refine RD.aload_n (pc := 0) dX6_works_0 rfl ?_
  refine RD.getR (pc := 1) dX6_works_1 flX6_9 ok14 rfl rfl ?_
  refine RD.iload_n (pc := 4) dX6_works_4 rfl ?_
  refine RD.iL (pc := 5) (n := 1024) (128 * s + q) (v := D (15, 0, 0) (128 * s + q)) rfl dX6_works_5 (ok15 (by decide)) rfl rfl (by omega) (by decide) ?_
  refine RD.istore (pc := 6) (ls' := [some (rR (14, 0, 0)), some (rI (nI s)), some (rI 10), some (rI (nI (128 * s + q))), some (rI (D (15, 0, 0) (128 * s + q)))]) dX6_works_6 (by decide) rfl ?_
  refine RD.iload_n (pc := 8) dX6_works_8 rfl ?_
  refine RD.iconst (pc := 9) (v := 4) dX6_works_9 (by decide) ?_
  refine RD.icmp_eq (pc := 10) 18 dX6_works_10 (by decide) (fun c10 => absurd c10 (by decide)) (fun c10 => ?_)
  refine RD.iload_n (pc := 13) dX6_works_13 rfl ?_
  refine RD.iconst (pc := 14) (v := 5) dX6_works_14 (by decide) ?_
  refine RD.icmp_ne (pc := 15) 33 dX6_works_15 (by decide) (fun c15 => ?_) (fun c15 => absurd c15 (by decide))
  refine RD.iload_n (pc := 33) dX6_works_33 rfl ?_
  refine RD.bipush (pc := 34) (v := 9) dX6_works_34 (by decide) ?_
  refine RD.icmp_eq (pc := 36) 45 dX6_works_36 (by decide) (fun c36 => absurd c36 (by decide)) (fun c36 => ?_)
  refine RD.iload_n (pc := 39) dX6_works_39 rfl ?_
  refine RD.bipush (pc := 40) (v := 10) dX6_works_40 (by decide) ?_
  refine RD.icmp_ne (pc := 42) 57 dX6_works_42 (by decide) (fun c42 => absurd (by decide) c42) (fun c42 => ?_)
  refine RD.iload (pc := 45) dX6_works_45 rfl ?_
  refine RD.if_ne (pc := 47) 57 dX6_works_47 (by decide) (fun c47 => ?_) (fun c47 => absurd c47 h)
  refine RD.iload_n (pc := 57) dX6_works_57 rfl ?_
  refine RD.tableIn (pc := 58) 242 dX6_works_58 (by decide) (by decide) rfl (by decide) ?_
  refine RD.aload_n (pc := 242) dX6_works_242 rfl ?_
  refine RD.getR (pc := 243) dX6_works_243 flX6_13 ok14 rfl rfl ?_
  refine RD.iload_n (pc := 246) dX6_works_246 rfl ?_
  refine RD.dup2 (pc := 247) dX6_works_247 ?_
  refine RD.iL (pc := 248) (n := 8) s (v := D (15, 1, 0) s) rfl dX6_works_248 (ok15 (by decide)) rfl rfl hs (by decide) ?_
  refine RD.iload (pc := 249) dX6_works_249 rfl ?_
  refine RD.irem (pc := 251) dX6_works_251 h ?_
  refine RD.iast (pc := 252) (n := 8) s dX6_works_252 (ok15 (by decide)) rfl rfl hs (by decide) ?_
  refine RD.goto (pc := 253) 281 dX6_works_253 (by decide) ?_
  refine RD.ret (pc := 281) ⟨rfl, dX6_works_281⟩ ?_
  exact ⟨rfl, rfl⟩

set_option maxRecDepth 20000 in
set_option maxHeartbeats 1000000 in
theorem m_call0 (K : EK) (d : Nat) {s : Nat} (hs : s < 8) (D : DT) {r : Int32} {D2 : DT} (hc : CF K mX6_newTag d [rR (14, 0, 0), rI (nI s)] D (some (rI r)) D2) : CF K mX6_call (d + 1) [rR (14, 0, 0), rI (nI s), rI 0] D (none) (up D2 (15, 1, 0) s r) := by
  refine CF.of [some (rR (14, 0, 0)), some (rI (nI s)), some (rI 0), none, none, none] (by decide) (leb rfl) rfl ?_
  refine RD.aload_n (pc := 0) dX6_call_0 rfl ?_
  refine RD.getR (pc := 1) dX6_call_1 flX6_9 ok14 rfl rfl ?_
  refine RD.sipush (pc := 4) (v := 128) dX6_call_4 (by decide) ?_
  refine RD.iload_n (pc := 7) dX6_call_7 rfl ?_
  refine RD.imul (pc := 8) dX6_call_8 ?_
  refine RD.eqI (pk_mul 128 s) ?_
  refine RD.bipush (pc := 9) (v := 120) dX6_call_9 (by decide) ?_
  refine RD.iadd (pc := 11) dX6_call_11 ?_
  refine RD.eqI (nI_add (128 * s) 120) ?_
  refine RD.iL (pc := 12) (n := 1024) ((128 * s) + 120) (v := D (15, 0, 0) ((128 * s) + 120)) rfl dX6_call_12 (ok15 (by decide)) rfl rfl (by omega) (by decide) ?_
  refine RD.istore_n (pc := 13) (ls' := [some (rR (14, 0, 0)), some (rI (nI s)), some (rI 0), some (rI (D (15, 0, 0) ((128 * s) + 120))), none, none]) dX6_call_13 (by decide) rfl ?_
  refine RD.aload_n (pc := 14) dX6_call_14 rfl ?_
  refine RD.getR (pc := 15) dX6_call_15 flX6_9 ok14 rfl rfl ?_
  refine RD.sipush (pc := 18) (v := 128) dX6_call_18 (by decide) ?_
  refine RD.iload_n (pc := 21) dX6_call_21 rfl ?_
  refine RD.imul (pc := 22) dX6_call_22 ?_
  refine RD.eqI (pk_mul 128 s) ?_
  refine RD.bipush (pc := 23) (v := 121) dX6_call_23 (by decide) ?_
  refine RD.iadd (pc := 25) dX6_call_25 ?_
  refine RD.eqI (nI_add (128 * s) 121) ?_
  refine RD.iL (pc := 26) (n := 1024) ((128 * s) + 121) (v := D (15, 0, 0) ((128 * s) + 121)) rfl dX6_call_26 (ok15 (by decide)) rfl rfl (by omega) (by decide) ?_
  refine RD.istore (pc := 27) (ls' := [some (rR (14, 0, 0)), some (rI (nI s)), some (rI 0), some (rI (D (15, 0, 0) ((128 * s) + 120))), some (rI (D (15, 0, 0) ((128 * s) + 121))), none]) dX6_call_27 (by decide) rfl ?_
  refine RD.aload_n (pc := 29) dX6_call_29 rfl ?_
  refine RD.getR (pc := 30) dX6_call_30 flX6_9 ok14 rfl rfl ?_
  refine RD.sipush (pc := 33) (v := 128) dX6_call_33 (by decide) ?_
  refine RD.iload_n (pc := 36) dX6_call_36 rfl ?_
  refine RD.imul (pc := 37) dX6_call_37 ?_
  refine RD.eqI (pk_mul 128 s) ?_
  refine RD.bipush (pc := 38) (v := 122) dX6_call_38 (by decide) ?_
  refine RD.iadd (pc := 40) dX6_call_40 ?_
  refine RD.eqI (nI_add (128 * s) 122) ?_
  refine RD.iL (pc := 41) (n := 1024) ((128 * s) + 122) (v := D (15, 0, 0) ((128 * s) + 122)) rfl dX6_call_41 (ok15 (by decide)) rfl rfl (by omega) (by decide) ?_
  refine RD.istore (pc := 42) (ls' := [some (rR (14, 0, 0)), some (rI (nI s)), some (rI 0), some (rI (D (15, 0, 0) ((128 * s) + 120))), some (rI (D (15, 0, 0) ((128 * s) + 121))), some (rI (D (15, 0, 0) ((128 * s) + 122)))]) dX6_call_42 (by decide) rfl ?_
  refine RD.iload_n (pc := 44) dX6_call_44 rfl ?_
  refine RD.tableIn (pc := 45) 108 dX6_call_45 (by decide) (by decide) rfl (by decide) ?_
  refine RD.aload_n (pc := 108) dX6_call_108 rfl ?_
  refine RD.getR (pc := 109) dX6_call_109 flX6_13 ok14 rfl rfl ?_
  refine RD.iload_n (pc := 112) dX6_call_112 rfl ?_
  refine RD.aload_n (pc := 113) dX6_call_113 rfl ?_
  refine RD.iload_n (pc := 114) dX6_call_114 rfl ?_
  refine RD.cV1 (pc := 115) dX6_call_115 mlX6_101 rfl ok14 rfl hc (leb rfl) ?_
  refine RD.iast (pc := 118) (n := 8) s dX6_call_118 (ok15 (by decide)) rfl rfl hs (by decide) ?_
  refine RD.goto (pc := 119) 391 dX6_call_119 (by decide) ?_
  refine RD.ret (pc := 391) ⟨rfl, dX6_call_391⟩ ?_
  exact ⟨rfl, rfl⟩

set_option maxRecDepth 20000 in
set_option maxHeartbeats 1000000 in
theorem m_call1 (K : EK) (d : Nat) {s : Nat} (hs : s < 8) (D : DT) {r : Int32} {D2 D3 : DT} (hl : CF K mX6_lists d [rR (14, 0, 0), rI (nI s), rI (D (15, 0, 0) (128 * s + 120))] D (some (rI 1)) D2) (hc : CF K mX6_changes d [rR (14, 0, 0), rI (nI s)] D2 (some (rI r)) D3) : CF K mX6_call (d + 1) [rR (14, 0, 0), rI (nI s), rI 1] D (none) (up D3 (15, 1, 0) s r) := by
  refine CF.of [some (rR (14, 0, 0)), some (rI (nI s)), some (rI 1), none, none, none] (by decide) (leb rfl) rfl ?_
  refine RD.aload_n (pc := 0) dX6_call_0 rfl ?_
  refine RD.getR (pc := 1) dX6_call_1 flX6_9 ok14 rfl rfl ?_
  refine RD.sipush (pc := 4) (v := 128) dX6_call_4 (by decide) ?_
  refine RD.iload_n (pc := 7) dX6_call_7 rfl ?_
  refine RD.imul (pc := 8) dX6_call_8 ?_
  refine RD.eqI (pk_mul 128 s) ?_
  refine RD.bipush (pc := 9) (v := 120) dX6_call_9 (by decide) ?_
  refine RD.iadd (pc := 11) dX6_call_11 ?_
  refine RD.eqI (nI_add (128 * s) 120) ?_
  refine RD.iL (pc := 12) (n := 1024) ((128 * s) + 120) (v := D (15, 0, 0) ((128 * s) + 120)) rfl dX6_call_12 (ok15 (by decide)) rfl rfl (by omega) (by decide) ?_
  refine RD.istore_n (pc := 13) (ls' := [some (rR (14, 0, 0)), some (rI (nI s)), some (rI 1), some (rI (D (15, 0, 0) ((128 * s) + 120))), none, none]) dX6_call_13 (by decide) rfl ?_
  refine RD.aload_n (pc := 14) dX6_call_14 rfl ?_
  refine RD.getR (pc := 15) dX6_call_15 flX6_9 ok14 rfl rfl ?_
  refine RD.sipush (pc := 18) (v := 128) dX6_call_18 (by decide) ?_
  refine RD.iload_n (pc := 21) dX6_call_21 rfl ?_
  refine RD.imul (pc := 22) dX6_call_22 ?_
  refine RD.eqI (pk_mul 128 s) ?_
  refine RD.bipush (pc := 23) (v := 121) dX6_call_23 (by decide) ?_
  refine RD.iadd (pc := 25) dX6_call_25 ?_
  refine RD.eqI (nI_add (128 * s) 121) ?_
  refine RD.iL (pc := 26) (n := 1024) ((128 * s) + 121) (v := D (15, 0, 0) ((128 * s) + 121)) rfl dX6_call_26 (ok15 (by decide)) rfl rfl (by omega) (by decide) ?_
  refine RD.istore (pc := 27) (ls' := [some (rR (14, 0, 0)), some (rI (nI s)), some (rI 1), some (rI (D (15, 0, 0) ((128 * s) + 120))), some (rI (D (15, 0, 0) ((128 * s) + 121))), none]) dX6_call_27 (by decide) rfl ?_
  refine RD.aload_n (pc := 29) dX6_call_29 rfl ?_
  refine RD.getR (pc := 30) dX6_call_30 flX6_9 ok14 rfl rfl ?_
  refine RD.sipush (pc := 33) (v := 128) dX6_call_33 (by decide) ?_
  refine RD.iload_n (pc := 36) dX6_call_36 rfl ?_
  refine RD.imul (pc := 37) dX6_call_37 ?_
  refine RD.eqI (pk_mul 128 s) ?_
  refine RD.bipush (pc := 38) (v := 122) dX6_call_38 (by decide) ?_
  refine RD.iadd (pc := 40) dX6_call_40 ?_
  refine RD.eqI (nI_add (128 * s) 122) ?_
  refine RD.iL (pc := 41) (n := 1024) ((128 * s) + 122) (v := D (15, 0, 0) ((128 * s) + 122)) rfl dX6_call_41 (ok15 (by decide)) rfl rfl (by omega) (by decide) ?_
  refine RD.istore (pc := 42) (ls' := [some (rR (14, 0, 0)), some (rI (nI s)), some (rI 1), some (rI (D (15, 0, 0) ((128 * s) + 120))), some (rI (D (15, 0, 0) ((128 * s) + 121))), some (rI (D (15, 0, 0) ((128 * s) + 122)))]) dX6_call_42 (by decide) rfl ?_
  refine RD.iload_n (pc := 44) dX6_call_44 rfl ?_
  refine RD.tableIn (pc := 45) 122 dX6_call_45 (by decide) (by decide) rfl (by decide) ?_
  refine RD.aload_n (pc := 122) dX6_call_122 rfl ?_
  refine RD.iload_n (pc := 123) dX6_call_123 rfl ?_
  refine RD.iload_n (pc := 124) dX6_call_124 rfl ?_
  refine RD.cV2 (pc := 125) dX6_call_125 mlX6_105 rfl ok14 rfl hl (leb rfl) ?_
  refine RD.if_eq (pc := 128) 391 dX6_call_128 (by decide) (fun c128 => absurd c128 (by decide)) (fun c128 => ?_)
  refine RD.aload_n (pc := 131) dX6_call_131 rfl ?_
  refine RD.getR (pc := 132) dX6_call_132 flX6_13 ok14 rfl rfl ?_
  refine RD.iload_n (pc := 135) dX6_call_135 rfl ?_
  refine RD.aload_n (pc := 136) dX6_call_136 rfl ?_
  refine RD.iload_n (pc := 137) dX6_call_137 rfl ?_
  refine RD.cV1 (pc := 138) dX6_call_138 mlX6_108 rfl ok14 rfl hc (leb rfl) ?_
  refine RD.iast (pc := 141) (n := 8) s dX6_call_141 (ok15 (by decide)) rfl rfl hs (by decide) ?_
  refine RD.goto (pc := 142) 391 dX6_call_142 (by decide) ?_
  refine RD.ret (pc := 391) ⟨rfl, dX6_call_391⟩ ?_
  exact ⟨rfl, rfl⟩

set_option maxRecDepth 20000 in
set_option maxHeartbeats 1000000 in
theorem m_call1N (K : EK) (d : Nat) {s : Nat} (hs : s < 8) (D : DT) {D2 : DT} (hl : CF K mX6_lists d [rR (14, 0, 0), rI (nI s), rI (D (15, 0, 0) (128 * s + 120))] D (some (rI 0)) D2) : CF K mX6_call (d + 1) [rR (14, 0, 0), rI (nI s), rI 1] D (none) D2 := by
  refine CF.of [some (rR (14, 0, 0)), some (rI (nI s)), some (rI 1), none, none, none] (by decide) (leb rfl) rfl ?_
  refine RD.aload_n (pc := 0) dX6_call_0 rfl ?_
  refine RD.getR (pc := 1) dX6_call_1 flX6_9 ok14 rfl rfl ?_
  refine RD.sipush (pc := 4) (v := 128) dX6_call_4 (by decide) ?_
  refine RD.iload_n (pc := 7) dX6_call_7 rfl ?_
  refine RD.imul (pc := 8) dX6_call_8 ?_
  refine RD.eqI (pk_mul 128 s) ?_
  refine RD.bipush (pc := 9) (v := 120) dX6_call_9 (by decide) ?_
  refine RD.iadd (pc := 11) dX6_call_11 ?_
  refine RD.eqI (nI_add (128 * s) 120) ?_
  refine RD.iL (pc := 12) (n := 1024) ((128 * s) + 120) (v := D (15, 0, 0) ((128 * s) + 120)) rfl dX6_call_12 (ok15 (by decide)) rfl rfl (by omega) (by decide) ?_
  refine RD.istore_n (pc := 13) (ls' := [some (rR (14, 0, 0)), some (rI (nI s)), some (rI 1), some (rI (D (15, 0, 0) ((128 * s) + 120))), none, none]) dX6_call_13 (by decide) rfl ?_
  refine RD.aload_n (pc := 14) dX6_call_14 rfl ?_
  refine RD.getR (pc := 15) dX6_call_15 flX6_9 ok14 rfl rfl ?_
  refine RD.sipush (pc := 18) (v := 128) dX6_call_18 (by decide) ?_
  refine RD.iload_n (pc := 21) dX6_call_21 rfl ?_
  refine RD.imul (pc := 22) dX6_call_22 ?_
  refine RD.eqI (pk_mul 128 s) ?_
  refine RD.bipush (pc := 23) (v := 121) dX6_call_23 (by decide) ?_
  refine RD.iadd (pc := 25) dX6_call_25 ?_
  refine RD.eqI (nI_add (128 * s) 121) ?_
  refine RD.iL (pc := 26) (n := 1024) ((128 * s) + 121) (v := D (15, 0, 0) ((128 * s) + 121)) rfl dX6_call_26 (ok15 (by decide)) rfl rfl (by omega) (by decide) ?_
  refine RD.istore (pc := 27) (ls' := [some (rR (14, 0, 0)), some (rI (nI s)), some (rI 1), some (rI (D (15, 0, 0) ((128 * s) + 120))), some (rI (D (15, 0, 0) ((128 * s) + 121))), none]) dX6_call_27 (by decide) rfl ?_
  refine RD.aload_n (pc := 29) dX6_call_29 rfl ?_
  refine RD.getR (pc := 30) dX6_call_30 flX6_9 ok14 rfl rfl ?_
  refine RD.sipush (pc := 33) (v := 128) dX6_call_33 (by decide) ?_
  refine RD.iload_n (pc := 36) dX6_call_36 rfl ?_
  refine RD.imul (pc := 37) dX6_call_37 ?_
  refine RD.eqI (pk_mul 128 s) ?_
  refine RD.bipush (pc := 38) (v := 122) dX6_call_38 (by decide) ?_
  refine RD.iadd (pc := 40) dX6_call_40 ?_
  refine RD.eqI (nI_add (128 * s) 122) ?_
  refine RD.iL (pc := 41) (n := 1024) ((128 * s) + 122) (v := D (15, 0, 0) ((128 * s) + 122)) rfl dX6_call_41 (ok15 (by decide)) rfl rfl (by omega) (by decide) ?_
  refine RD.istore (pc := 42) (ls' := [some (rR (14, 0, 0)), some (rI (nI s)), some (rI 1), some (rI (D (15, 0, 0) ((128 * s) + 120))), some (rI (D (15, 0, 0) ((128 * s) + 121))), some (rI (D (15, 0, 0) ((128 * s) + 122)))]) dX6_call_42 (by decide) rfl ?_
  refine RD.iload_n (pc := 44) dX6_call_44 rfl ?_
  refine RD.tableIn (pc := 45) 122 dX6_call_45 (by decide) (by decide) rfl (by decide) ?_
  refine RD.aload_n (pc := 122) dX6_call_122 rfl ?_
  refine RD.iload_n (pc := 123) dX6_call_123 rfl ?_
  refine RD.iload_n (pc := 124) dX6_call_124 rfl ?_
  refine RD.cV2 (pc := 125) dX6_call_125 mlX6_105 rfl ok14 rfl hl (leb rfl) ?_
  refine RD.if_eq (pc := 128) 391 dX6_call_128 (by decide) (fun c128 => ?_) (fun c128 => absurd rfl c128)
  refine RD.ret (pc := 391) ⟨rfl, dX6_call_391⟩ ?_
  exact ⟨rfl, rfl⟩

set_option maxRecDepth 20000 in
set_option maxHeartbeats 1000000 in
theorem m_call6 (K : EK) (d : Nat) {s : Nat} (hs : s < 8) (D : DT) {r : Int32} {D2 D3 : DT} (hl : CF K mX6_lists d [rR (14, 0, 0), rI (nI s), rI (D (15, 0, 0) (128 * s + 120))] D (some (rI 1)) D2) (hc : CF K mX6_creates d [rR (14, 0, 0), rI (nI s)] D2 (some (rI r)) D3) : CF K mX6_call (d + 1) [rR (14, 0, 0), rI (nI s), rI 6] D (none) (up D3 (15, 1, 0) s r) := by
  refine CF.of [some (rR (14, 0, 0)), some (rI (nI s)), some (rI 6), none, none, none] (by decide) (leb rfl) rfl ?_
  refine RD.aload_n (pc := 0) dX6_call_0 rfl ?_
  refine RD.getR (pc := 1) dX6_call_1 flX6_9 ok14 rfl rfl ?_
  refine RD.sipush (pc := 4) (v := 128) dX6_call_4 (by decide) ?_
  refine RD.iload_n (pc := 7) dX6_call_7 rfl ?_
  refine RD.imul (pc := 8) dX6_call_8 ?_
  refine RD.eqI (pk_mul 128 s) ?_
  refine RD.bipush (pc := 9) (v := 120) dX6_call_9 (by decide) ?_
  refine RD.iadd (pc := 11) dX6_call_11 ?_
  refine RD.eqI (nI_add (128 * s) 120) ?_
  refine RD.iL (pc := 12) (n := 1024) ((128 * s) + 120) (v := D (15, 0, 0) ((128 * s) + 120)) rfl dX6_call_12 (ok15 (by decide)) rfl rfl (by omega) (by decide) ?_
  refine RD.istore_n (pc := 13) (ls' := [some (rR (14, 0, 0)), some (rI (nI s)), some (rI 6), some (rI (D (15, 0, 0) ((128 * s) + 120))), none, none]) dX6_call_13 (by decide) rfl ?_
  refine RD.aload_n (pc := 14) dX6_call_14 rfl ?_
  refine RD.getR (pc := 15) dX6_call_15 flX6_9 ok14 rfl rfl ?_
  refine RD.sipush (pc := 18) (v := 128) dX6_call_18 (by decide) ?_
  refine RD.iload_n (pc := 21) dX6_call_21 rfl ?_
  refine RD.imul (pc := 22) dX6_call_22 ?_
  refine RD.eqI (pk_mul 128 s) ?_
  refine RD.bipush (pc := 23) (v := 121) dX6_call_23 (by decide) ?_
  refine RD.iadd (pc := 25) dX6_call_25 ?_
  refine RD.eqI (nI_add (128 * s) 121) ?_
  refine RD.iL (pc := 26) (n := 1024) ((128 * s) + 121) (v := D (15, 0, 0) ((128 * s) + 121)) rfl dX6_call_26 (ok15 (by decide)) rfl rfl (by omega) (by decide) ?_
  refine RD.istore (pc := 27) (ls' := [some (rR (14, 0, 0)), some (rI (nI s)), some (rI 6), some (rI (D (15, 0, 0) ((128 * s) + 120))), some (rI (D (15, 0, 0) ((128 * s) + 121))), none]) dX6_call_27 (by decide) rfl ?_
  refine RD.aload_n (pc := 29) dX6_call_29 rfl ?_
  refine RD.getR (pc := 30) dX6_call_30 flX6_9 ok14 rfl rfl ?_
  refine RD.sipush (pc := 33) (v := 128) dX6_call_33 (by decide) ?_
  refine RD.iload_n (pc := 36) dX6_call_36 rfl ?_
  refine RD.imul (pc := 37) dX6_call_37 ?_
  refine RD.eqI (pk_mul 128 s) ?_
  refine RD.bipush (pc := 38) (v := 122) dX6_call_38 (by decide) ?_
  refine RD.iadd (pc := 40) dX6_call_40 ?_
  refine RD.eqI (nI_add (128 * s) 122) ?_
  refine RD.iL (pc := 41) (n := 1024) ((128 * s) + 122) (v := D (15, 0, 0) ((128 * s) + 122)) rfl dX6_call_41 (ok15 (by decide)) rfl rfl (by omega) (by decide) ?_
  refine RD.istore (pc := 42) (ls' := [some (rR (14, 0, 0)), some (rI (nI s)), some (rI 6), some (rI (D (15, 0, 0) ((128 * s) + 120))), some (rI (D (15, 0, 0) ((128 * s) + 121))), some (rI (D (15, 0, 0) ((128 * s) + 122)))]) dX6_call_42 (by decide) rfl ?_
  refine RD.iload_n (pc := 44) dX6_call_44 rfl ?_
  refine RD.tableIn (pc := 45) 230 dX6_call_45 (by decide) (by decide) rfl (by decide) ?_
  refine RD.aload_n (pc := 230) dX6_call_230 rfl ?_
  refine RD.iload_n (pc := 231) dX6_call_231 rfl ?_
  refine RD.iload_n (pc := 232) dX6_call_232 rfl ?_
  refine RD.cV2 (pc := 233) dX6_call_233 mlX6_105 rfl ok14 rfl hl (leb rfl) ?_
  refine RD.if_eq (pc := 236) 391 dX6_call_236 (by decide) (fun c236 => absurd c236 (by decide)) (fun c236 => ?_)
  refine RD.aload_n (pc := 239) dX6_call_239 rfl ?_
  refine RD.getR (pc := 240) dX6_call_240 flX6_13 ok14 rfl rfl ?_
  refine RD.iload_n (pc := 243) dX6_call_243 rfl ?_
  refine RD.aload_n (pc := 244) dX6_call_244 rfl ?_
  refine RD.iload_n (pc := 245) dX6_call_245 rfl ?_
  refine RD.cV1 (pc := 246) dX6_call_246 mlX6_124 rfl ok14 rfl hc (leb rfl) ?_
  refine RD.iast (pc := 249) (n := 8) s dX6_call_249 (ok15 (by decide)) rfl rfl hs (by decide) ?_
  refine RD.goto (pc := 250) 391 dX6_call_250 (by decide) ?_
  refine RD.ret (pc := 391) ⟨rfl, dX6_call_391⟩ ?_
  exact ⟨rfl, rfl⟩

set_option maxRecDepth 20000 in
set_option maxHeartbeats 1000000 in
theorem m_call6N (K : EK) (d : Nat) {s : Nat} (hs : s < 8) (D : DT) {D2 : DT} (hl : CF K mX6_lists d [rR (14, 0, 0), rI (nI s), rI (D (15, 0, 0) (128 * s + 120))] D (some (rI 0)) D2) : CF K mX6_call (d + 1) [rR (14, 0, 0), rI (nI s), rI 6] D (none) D2 := by
  refine CF.of [some (rR (14, 0, 0)), some (rI (nI s)), some (rI 6), none, none, none] (by decide) (leb rfl) rfl ?_
  refine RD.aload_n (pc := 0) dX6_call_0 rfl ?_
  refine RD.getR (pc := 1) dX6_call_1 flX6_9 ok14 rfl rfl ?_
  refine RD.sipush (pc := 4) (v := 128) dX6_call_4 (by decide) ?_
  refine RD.iload_n (pc := 7) dX6_call_7 rfl ?_
  refine RD.imul (pc := 8) dX6_call_8 ?_
  refine RD.eqI (pk_mul 128 s) ?_
  refine RD.bipush (pc := 9) (v := 120) dX6_call_9 (by decide) ?_
  refine RD.iadd (pc := 11) dX6_call_11 ?_
  refine RD.eqI (nI_add (128 * s) 120) ?_
  refine RD.iL (pc := 12) (n := 1024) ((128 * s) + 120) (v := D (15, 0, 0) ((128 * s) + 120)) rfl dX6_call_12 (ok15 (by decide)) rfl rfl (by omega) (by decide) ?_
  refine RD.istore_n (pc := 13) (ls' := [some (rR (14, 0, 0)), some (rI (nI s)), some (rI 6), some (rI (D (15, 0, 0) ((128 * s) + 120))), none, none]) dX6_call_13 (by decide) rfl ?_
  refine RD.aload_n (pc := 14) dX6_call_14 rfl ?_
  refine RD.getR (pc := 15) dX6_call_15 flX6_9 ok14 rfl rfl ?_
  refine RD.sipush (pc := 18) (v := 128) dX6_call_18 (by decide) ?_
  refine RD.iload_n (pc := 21) dX6_call_21 rfl ?_
  refine RD.imul (pc := 22) dX6_call_22 ?_
  refine RD.eqI (pk_mul 128 s) ?_
  refine RD.bipush (pc := 23) (v := 121) dX6_call_23 (by decide) ?_
  refine RD.iadd (pc := 25) dX6_call_25 ?_
  refine RD.eqI (nI_add (128 * s) 121) ?_
  refine RD.iL (pc := 26) (n := 1024) ((128 * s) + 121) (v := D (15, 0, 0) ((128 * s) + 121)) rfl dX6_call_26 (ok15 (by decide)) rfl rfl (by omega) (by decide) ?_
  refine RD.istore (pc := 27) (ls' := [some (rR (14, 0, 0)), some (rI (nI s)), some (rI 6), some (rI (D (15, 0, 0) ((128 * s) + 120))), some (rI (D (15, 0, 0) ((128 * s) + 121))), none]) dX6_call_27 (by decide) rfl ?_
  refine RD.aload_n (pc := 29) dX6_call_29 rfl ?_
  refine RD.getR (pc := 30) dX6_call_30 flX6_9 ok14 rfl rfl ?_
  refine RD.sipush (pc := 33) (v := 128) dX6_call_33 (by decide) ?_
  refine RD.iload_n (pc := 36) dX6_call_36 rfl ?_
  refine RD.imul (pc := 37) dX6_call_37 ?_
  refine RD.eqI (pk_mul 128 s) ?_
  refine RD.bipush (pc := 38) (v := 122) dX6_call_38 (by decide) ?_
  refine RD.iadd (pc := 40) dX6_call_40 ?_
  refine RD.eqI (nI_add (128 * s) 122) ?_
  refine RD.iL (pc := 41) (n := 1024) ((128 * s) + 122) (v := D (15, 0, 0) ((128 * s) + 122)) rfl dX6_call_41 (ok15 (by decide)) rfl rfl (by omega) (by decide) ?_
  refine RD.istore (pc := 42) (ls' := [some (rR (14, 0, 0)), some (rI (nI s)), some (rI 6), some (rI (D (15, 0, 0) ((128 * s) + 120))), some (rI (D (15, 0, 0) ((128 * s) + 121))), some (rI (D (15, 0, 0) ((128 * s) + 122)))]) dX6_call_42 (by decide) rfl ?_
  refine RD.iload_n (pc := 44) dX6_call_44 rfl ?_
  refine RD.tableIn (pc := 45) 230 dX6_call_45 (by decide) (by decide) rfl (by decide) ?_
  refine RD.aload_n (pc := 230) dX6_call_230 rfl ?_
  refine RD.iload_n (pc := 231) dX6_call_231 rfl ?_
  refine RD.iload_n (pc := 232) dX6_call_232 rfl ?_
  refine RD.cV2 (pc := 233) dX6_call_233 mlX6_105 rfl ok14 rfl hl (leb rfl) ?_
  refine RD.if_eq (pc := 236) 391 dX6_call_236 (by decide) (fun c236 => ?_) (fun c236 => absurd rfl c236)
  refine RD.ret (pc := 391) ⟨rfl, dX6_call_391⟩ ?_
  exact ⟨rfl, rfl⟩

set_option maxRecDepth 20000 in
set_option maxHeartbeats 1000000 in
theorem m_call2a (K : EK) (d : Nat) {s : Nat} (hs : s < 8) (D : DT) (hq : D (15, 0, 0) (128 * s + 121) = 0) {r : Int32} {D2 : DT} (hc : CF K mX6_drops d [rR (14, 0, 0), rI (nI s), rI (D (15, 0, 0) (128 * s + 120)), rI 0] D (some (rI r)) D2) : CF K mX6_call (d + 1) [rR (14, 0, 0), rI (nI s), rI 2] D (none) (up D2 (15, 1, 0) s r) := by
  refine CF.of [some (rR (14, 0, 0)), some (rI (nI s)), some (rI 2), none, none, none] (by decide) (leb rfl) rfl ?_
  refine RD.aload_n (pc := 0) dX6_call_0 rfl ?_
  refine RD.getR (pc := 1) dX6_call_1 flX6_9 ok14 rfl rfl ?_
  refine RD.sipush (pc := 4) (v := 128) dX6_call_4 (by decide) ?_
  refine RD.iload_n (pc := 7) dX6_call_7 rfl ?_
  refine RD.imul (pc := 8) dX6_call_8 ?_
  refine RD.eqI (pk_mul 128 s) ?_
  refine RD.bipush (pc := 9) (v := 120) dX6_call_9 (by decide) ?_
  refine RD.iadd (pc := 11) dX6_call_11 ?_
  refine RD.eqI (nI_add (128 * s) 120) ?_
  refine RD.iL (pc := 12) (n := 1024) ((128 * s) + 120) (v := D (15, 0, 0) ((128 * s) + 120)) rfl dX6_call_12 (ok15 (by decide)) rfl rfl (by omega) (by decide) ?_
  refine RD.istore_n (pc := 13) (ls' := [some (rR (14, 0, 0)), some (rI (nI s)), some (rI 2), some (rI (D (15, 0, 0) ((128 * s) + 120))), none, none]) dX6_call_13 (by decide) rfl ?_
  refine RD.aload_n (pc := 14) dX6_call_14 rfl ?_
  refine RD.getR (pc := 15) dX6_call_15 flX6_9 ok14 rfl rfl ?_
  refine RD.sipush (pc := 18) (v := 128) dX6_call_18 (by decide) ?_
  refine RD.iload_n (pc := 21) dX6_call_21 rfl ?_
  refine RD.imul (pc := 22) dX6_call_22 ?_
  refine RD.eqI (pk_mul 128 s) ?_
  refine RD.bipush (pc := 23) (v := 121) dX6_call_23 (by decide) ?_
  refine RD.iadd (pc := 25) dX6_call_25 ?_
  refine RD.eqI (nI_add (128 * s) 121) ?_
  refine RD.iL (pc := 26) (n := 1024) ((128 * s) + 121) (v := D (15, 0, 0) ((128 * s) + 121)) rfl dX6_call_26 (ok15 (by decide)) rfl rfl (by omega) (by decide) ?_
  refine RD.istore (pc := 27) (ls' := [some (rR (14, 0, 0)), some (rI (nI s)), some (rI 2), some (rI (D (15, 0, 0) ((128 * s) + 120))), some (rI (D (15, 0, 0) ((128 * s) + 121))), none]) dX6_call_27 (by decide) rfl ?_
  refine RD.aload_n (pc := 29) dX6_call_29 rfl ?_
  refine RD.getR (pc := 30) dX6_call_30 flX6_9 ok14 rfl rfl ?_
  refine RD.sipush (pc := 33) (v := 128) dX6_call_33 (by decide) ?_
  refine RD.iload_n (pc := 36) dX6_call_36 rfl ?_
  refine RD.imul (pc := 37) dX6_call_37 ?_
  refine RD.eqI (pk_mul 128 s) ?_
  refine RD.bipush (pc := 38) (v := 122) dX6_call_38 (by decide) ?_
  refine RD.iadd (pc := 40) dX6_call_40 ?_
  refine RD.eqI (nI_add (128 * s) 122) ?_
  refine RD.iL (pc := 41) (n := 1024) ((128 * s) + 122) (v := D (15, 0, 0) ((128 * s) + 122)) rfl dX6_call_41 (ok15 (by decide)) rfl rfl (by omega) (by decide) ?_
  refine RD.istore (pc := 42) (ls' := [some (rR (14, 0, 0)), some (rI (nI s)), some (rI 2), some (rI (D (15, 0, 0) ((128 * s) + 120))), some (rI (D (15, 0, 0) ((128 * s) + 121))), some (rI (D (15, 0, 0) ((128 * s) + 122)))]) dX6_call_42 (by decide) rfl ?_
  refine RD.iload_n (pc := 44) dX6_call_44 rfl ?_
  refine RD.tableIn (pc := 45) 145 dX6_call_45 (by decide) (by decide) rfl (by decide) ?_
  refine RD.aload_n (pc := 145) dX6_call_145 rfl ?_
  refine RD.getR (pc := 146) dX6_call_146 flX6_13 ok14 rfl rfl ?_
  refine RD.iload_n (pc := 149) dX6_call_149 rfl ?_
  refine RD.aload_n (pc := 150) dX6_call_150 rfl ?_
  refine RD.iload_n (pc := 151) dX6_call_151 rfl ?_
  refine RD.iload_n (pc := 152) dX6_call_152 rfl ?_
  refine RD.iload (pc := 153) dX6_call_153 rfl ?_
  refine RD.if_ne (pc := 155) 162 dX6_call_155 (by decide) (fun c155 => absurd hq c155) (fun c155 => ?_)
  refine RD.iconst (pc := 158) (v := 0) dX6_call_158 (by decide) ?_
  refine RD.goto (pc := 159) 163 dX6_call_159 (by decide) ?_
  refine RD.cV3 (pc := 163) dX6_call_163 mlX6_111 rfl ok14 rfl hc (leb rfl) ?_
  refine RD.iast (pc := 166) (n := 8) s dX6_call_166 (ok15 (by decide)) rfl rfl hs (by decide) ?_
  refine RD.goto (pc := 167) 391 dX6_call_167 (by decide) ?_
  refine RD.ret (pc := 391) ⟨rfl, dX6_call_391⟩ ?_
  exact ⟨rfl, rfl⟩

set_option maxRecDepth 20000 in
set_option maxHeartbeats 1000000 in
theorem m_call2b (K : EK) (d : Nat) {s : Nat} (hs : s < 8) (D : DT) (hq : ¬ D (15, 0, 0) (128 * s + 121) = 0) {r : Int32} {D2 : DT} (hc : CF K mX6_drops d [rR (14, 0, 0), rI (nI s), rI (D (15, 0, 0) (128 * s + 120)), rI 1] D (some (rI r)) D2) : CF K mX6_call (d + 1) [rR (14, 0, 0), rI (nI s), rI 2] D (none) (up D2 (15, 1, 0) s r) := by
  refine CF.of [some (rR (14, 0, 0)), some (rI (nI s)), some (rI 2), none, none, none] (by decide) (leb rfl) rfl ?_
  refine RD.aload_n (pc := 0) dX6_call_0 rfl ?_
  refine RD.getR (pc := 1) dX6_call_1 flX6_9 ok14 rfl rfl ?_
  refine RD.sipush (pc := 4) (v := 128) dX6_call_4 (by decide) ?_
  refine RD.iload_n (pc := 7) dX6_call_7 rfl ?_
  refine RD.imul (pc := 8) dX6_call_8 ?_
  refine RD.eqI (pk_mul 128 s) ?_
  refine RD.bipush (pc := 9) (v := 120) dX6_call_9 (by decide) ?_
  refine RD.iadd (pc := 11) dX6_call_11 ?_
  refine RD.eqI (nI_add (128 * s) 120) ?_
  refine RD.iL (pc := 12) (n := 1024) ((128 * s) + 120) (v := D (15, 0, 0) ((128 * s) + 120)) rfl dX6_call_12 (ok15 (by decide)) rfl rfl (by omega) (by decide) ?_
  refine RD.istore_n (pc := 13) (ls' := [some (rR (14, 0, 0)), some (rI (nI s)), some (rI 2), some (rI (D (15, 0, 0) ((128 * s) + 120))), none, none]) dX6_call_13 (by decide) rfl ?_
  refine RD.aload_n (pc := 14) dX6_call_14 rfl ?_
  refine RD.getR (pc := 15) dX6_call_15 flX6_9 ok14 rfl rfl ?_
  refine RD.sipush (pc := 18) (v := 128) dX6_call_18 (by decide) ?_
  refine RD.iload_n (pc := 21) dX6_call_21 rfl ?_
  refine RD.imul (pc := 22) dX6_call_22 ?_
  refine RD.eqI (pk_mul 128 s) ?_
  refine RD.bipush (pc := 23) (v := 121) dX6_call_23 (by decide) ?_
  refine RD.iadd (pc := 25) dX6_call_25 ?_
  refine RD.eqI (nI_add (128 * s) 121) ?_
  refine RD.iL (pc := 26) (n := 1024) ((128 * s) + 121) (v := D (15, 0, 0) ((128 * s) + 121)) rfl dX6_call_26 (ok15 (by decide)) rfl rfl (by omega) (by decide) ?_
  refine RD.istore (pc := 27) (ls' := [some (rR (14, 0, 0)), some (rI (nI s)), some (rI 2), some (rI (D (15, 0, 0) ((128 * s) + 120))), some (rI (D (15, 0, 0) ((128 * s) + 121))), none]) dX6_call_27 (by decide) rfl ?_
  refine RD.aload_n (pc := 29) dX6_call_29 rfl ?_
  refine RD.getR (pc := 30) dX6_call_30 flX6_9 ok14 rfl rfl ?_
  refine RD.sipush (pc := 33) (v := 128) dX6_call_33 (by decide) ?_
  refine RD.iload_n (pc := 36) dX6_call_36 rfl ?_
  refine RD.imul (pc := 37) dX6_call_37 ?_
  refine RD.eqI (pk_mul 128 s) ?_
  refine RD.bipush (pc := 38) (v := 122) dX6_call_38 (by decide) ?_
  refine RD.iadd (pc := 40) dX6_call_40 ?_
  refine RD.eqI (nI_add (128 * s) 122) ?_
  refine RD.iL (pc := 41) (n := 1024) ((128 * s) + 122) (v := D (15, 0, 0) ((128 * s) + 122)) rfl dX6_call_41 (ok15 (by decide)) rfl rfl (by omega) (by decide) ?_
  refine RD.istore (pc := 42) (ls' := [some (rR (14, 0, 0)), some (rI (nI s)), some (rI 2), some (rI (D (15, 0, 0) ((128 * s) + 120))), some (rI (D (15, 0, 0) ((128 * s) + 121))), some (rI (D (15, 0, 0) ((128 * s) + 122)))]) dX6_call_42 (by decide) rfl ?_
  refine RD.iload_n (pc := 44) dX6_call_44 rfl ?_
  refine RD.tableIn (pc := 45) 145 dX6_call_45 (by decide) (by decide) rfl (by decide) ?_
  refine RD.aload_n (pc := 145) dX6_call_145 rfl ?_
  refine RD.getR (pc := 146) dX6_call_146 flX6_13 ok14 rfl rfl ?_
  refine RD.iload_n (pc := 149) dX6_call_149 rfl ?_
  refine RD.aload_n (pc := 150) dX6_call_150 rfl ?_
  refine RD.iload_n (pc := 151) dX6_call_151 rfl ?_
  refine RD.iload_n (pc := 152) dX6_call_152 rfl ?_
  refine RD.iload (pc := 153) dX6_call_153 rfl ?_
  refine RD.if_ne (pc := 155) 162 dX6_call_155 (by decide) (fun c155 => ?_) (fun c155 => absurd c155 hq)
  refine RD.iconst (pc := 162) (v := 1) dX6_call_162 (by decide) ?_
  refine RD.cV3 (pc := 163) dX6_call_163 mlX6_111 rfl ok14 rfl hc (leb rfl) ?_
  refine RD.iast (pc := 166) (n := 8) s dX6_call_166 (ok15 (by decide)) rfl rfl hs (by decide) ?_
  refine RD.goto (pc := 167) 391 dX6_call_167 (by decide) ?_
  refine RD.ret (pc := 391) ⟨rfl, dX6_call_391⟩ ?_
  exact ⟨rfl, rfl⟩

set_option maxRecDepth 20000 in
set_option maxHeartbeats 1000000 in
theorem m_call3 (K : EK) (d : Nat) {s : Nat} (hs : s < 8) (D : DT) {D2 : DT} (hc : CF K mX6_sends d [rR (14, 0, 0), rI (nI s), rI (D (15, 0, 0) (128 * s + 120)), rI (D (15, 0, 0) (128 * s + 121)), rI (-1)] D (none) D2) : CF K mX6_call (d + 1) [rR (14, 0, 0), rI (nI s), rI 3] D (none) (up D2 (15, 1, 0) s 1) := by
  refine CF.of [some (rR (14, 0, 0)), some (rI (nI s)), some (rI 3), none, none, none] (by decide) (leb rfl) rfl ?_
  refine RD.aload_n (pc := 0) dX6_call_0 rfl ?_
  refine RD.getR (pc := 1) dX6_call_1 flX6_9 ok14 rfl rfl ?_
  refine RD.sipush (pc := 4) (v := 128) dX6_call_4 (by decide) ?_
  refine RD.iload_n (pc := 7) dX6_call_7 rfl ?_
  refine RD.imul (pc := 8) dX6_call_8 ?_
  refine RD.eqI (pk_mul 128 s) ?_
  refine RD.bipush (pc := 9) (v := 120) dX6_call_9 (by decide) ?_
  refine RD.iadd (pc := 11) dX6_call_11 ?_
  refine RD.eqI (nI_add (128 * s) 120) ?_
  refine RD.iL (pc := 12) (n := 1024) ((128 * s) + 120) (v := D (15, 0, 0) ((128 * s) + 120)) rfl dX6_call_12 (ok15 (by decide)) rfl rfl (by omega) (by decide) ?_
  refine RD.istore_n (pc := 13) (ls' := [some (rR (14, 0, 0)), some (rI (nI s)), some (rI 3), some (rI (D (15, 0, 0) ((128 * s) + 120))), none, none]) dX6_call_13 (by decide) rfl ?_
  refine RD.aload_n (pc := 14) dX6_call_14 rfl ?_
  refine RD.getR (pc := 15) dX6_call_15 flX6_9 ok14 rfl rfl ?_
  refine RD.sipush (pc := 18) (v := 128) dX6_call_18 (by decide) ?_
  refine RD.iload_n (pc := 21) dX6_call_21 rfl ?_
  refine RD.imul (pc := 22) dX6_call_22 ?_
  refine RD.eqI (pk_mul 128 s) ?_
  refine RD.bipush (pc := 23) (v := 121) dX6_call_23 (by decide) ?_
  refine RD.iadd (pc := 25) dX6_call_25 ?_
  refine RD.eqI (nI_add (128 * s) 121) ?_
  refine RD.iL (pc := 26) (n := 1024) ((128 * s) + 121) (v := D (15, 0, 0) ((128 * s) + 121)) rfl dX6_call_26 (ok15 (by decide)) rfl rfl (by omega) (by decide) ?_
  refine RD.istore (pc := 27) (ls' := [some (rR (14, 0, 0)), some (rI (nI s)), some (rI 3), some (rI (D (15, 0, 0) ((128 * s) + 120))), some (rI (D (15, 0, 0) ((128 * s) + 121))), none]) dX6_call_27 (by decide) rfl ?_
  refine RD.aload_n (pc := 29) dX6_call_29 rfl ?_
  refine RD.getR (pc := 30) dX6_call_30 flX6_9 ok14 rfl rfl ?_
  refine RD.sipush (pc := 33) (v := 128) dX6_call_33 (by decide) ?_
  refine RD.iload_n (pc := 36) dX6_call_36 rfl ?_
  refine RD.imul (pc := 37) dX6_call_37 ?_
  refine RD.eqI (pk_mul 128 s) ?_
  refine RD.bipush (pc := 38) (v := 122) dX6_call_38 (by decide) ?_
  refine RD.iadd (pc := 40) dX6_call_40 ?_
  refine RD.eqI (nI_add (128 * s) 122) ?_
  refine RD.iL (pc := 41) (n := 1024) ((128 * s) + 122) (v := D (15, 0, 0) ((128 * s) + 122)) rfl dX6_call_41 (ok15 (by decide)) rfl rfl (by omega) (by decide) ?_
  refine RD.istore (pc := 42) (ls' := [some (rR (14, 0, 0)), some (rI (nI s)), some (rI 3), some (rI (D (15, 0, 0) ((128 * s) + 120))), some (rI (D (15, 0, 0) ((128 * s) + 121))), some (rI (D (15, 0, 0) ((128 * s) + 122)))]) dX6_call_42 (by decide) rfl ?_
  refine RD.iload_n (pc := 44) dX6_call_44 rfl ?_
  refine RD.tableIn (pc := 45) 170 dX6_call_45 (by decide) (by decide) rfl (by decide) ?_
  refine RD.aload_n (pc := 170) dX6_call_170 rfl ?_
  refine RD.iload_n (pc := 171) dX6_call_171 rfl ?_
  refine RD.iload_n (pc := 172) dX6_call_172 rfl ?_
  refine RD.iload (pc := 173) dX6_call_173 rfl ?_
  refine RD.iconst (pc := 175) (v := (-1)) dX6_call_175 (by decide) ?_
  refine RD.cV4v (pc := 176) dX6_call_176 mlX6_114 rfl ok14 rfl hc (leb rfl) ?_
  refine RD.aload_n (pc := 179) dX6_call_179 rfl ?_
  refine RD.getR (pc := 180) dX6_call_180 flX6_13 ok14 rfl rfl ?_
  refine RD.iload_n (pc := 183) dX6_call_183 rfl ?_
  refine RD.iconst (pc := 184) (v := 1) dX6_call_184 (by decide) ?_
  refine RD.iast (pc := 185) (n := 8) s dX6_call_185 (ok15 (by decide)) rfl rfl hs (by decide) ?_
  refine RD.goto (pc := 186) 391 dX6_call_186 (by decide) ?_
  refine RD.ret (pc := 391) ⟨rfl, dX6_call_391⟩ ?_
  exact ⟨rfl, rfl⟩

set_option maxRecDepth 20000 in
set_option maxHeartbeats 1000000 in
theorem m_call4a (K : EK) (d : Nat) {s : Nat} (hs : s < 8) (D : DT) (hq : D (15, 0, 0) (128 * s + 122) = 0) {r : Int32} {D2 : DT} (hc : CF K mX6_passes d [rR (14, 0, 0), rI (nI s), rI (D (15, 0, 0) (128 * s + 120)), rI (D (15, 0, 0) (128 * s + 121)), rI 0] D (some (rI r)) D2) : CF K mX6_call (d + 1) [rR (14, 0, 0), rI (nI s), rI 4] D (none) (up D2 (15, 1, 0) s r) := by
  refine CF.of [some (rR (14, 0, 0)), some (rI (nI s)), some (rI 4), none, none, none] (by decide) (leb rfl) rfl ?_
  refine RD.aload_n (pc := 0) dX6_call_0 rfl ?_
  refine RD.getR (pc := 1) dX6_call_1 flX6_9 ok14 rfl rfl ?_
  refine RD.sipush (pc := 4) (v := 128) dX6_call_4 (by decide) ?_
  refine RD.iload_n (pc := 7) dX6_call_7 rfl ?_
  refine RD.imul (pc := 8) dX6_call_8 ?_
  refine RD.eqI (pk_mul 128 s) ?_
  refine RD.bipush (pc := 9) (v := 120) dX6_call_9 (by decide) ?_
  refine RD.iadd (pc := 11) dX6_call_11 ?_
  refine RD.eqI (nI_add (128 * s) 120) ?_
  refine RD.iL (pc := 12) (n := 1024) ((128 * s) + 120) (v := D (15, 0, 0) ((128 * s) + 120)) rfl dX6_call_12 (ok15 (by decide)) rfl rfl (by omega) (by decide) ?_
  refine RD.istore_n (pc := 13) (ls' := [some (rR (14, 0, 0)), some (rI (nI s)), some (rI 4), some (rI (D (15, 0, 0) ((128 * s) + 120))), none, none]) dX6_call_13 (by decide) rfl ?_
  refine RD.aload_n (pc := 14) dX6_call_14 rfl ?_
  refine RD.getR (pc := 15) dX6_call_15 flX6_9 ok14 rfl rfl ?_
  refine RD.sipush (pc := 18) (v := 128) dX6_call_18 (by decide) ?_
  refine RD.iload_n (pc := 21) dX6_call_21 rfl ?_
  refine RD.imul (pc := 22) dX6_call_22 ?_
  refine RD.eqI (pk_mul 128 s) ?_
  refine RD.bipush (pc := 23) (v := 121) dX6_call_23 (by decide) ?_
  refine RD.iadd (pc := 25) dX6_call_25 ?_
  refine RD.eqI (nI_add (128 * s) 121) ?_
  refine RD.iL (pc := 26) (n := 1024) ((128 * s) + 121) (v := D (15, 0, 0) ((128 * s) + 121)) rfl dX6_call_26 (ok15 (by decide)) rfl rfl (by omega) (by decide) ?_
  refine RD.istore (pc := 27) (ls' := [some (rR (14, 0, 0)), some (rI (nI s)), some (rI 4), some (rI (D (15, 0, 0) ((128 * s) + 120))), some (rI (D (15, 0, 0) ((128 * s) + 121))), none]) dX6_call_27 (by decide) rfl ?_
  refine RD.aload_n (pc := 29) dX6_call_29 rfl ?_
  refine RD.getR (pc := 30) dX6_call_30 flX6_9 ok14 rfl rfl ?_
  refine RD.sipush (pc := 33) (v := 128) dX6_call_33 (by decide) ?_
  refine RD.iload_n (pc := 36) dX6_call_36 rfl ?_
  refine RD.imul (pc := 37) dX6_call_37 ?_
  refine RD.eqI (pk_mul 128 s) ?_
  refine RD.bipush (pc := 38) (v := 122) dX6_call_38 (by decide) ?_
  refine RD.iadd (pc := 40) dX6_call_40 ?_
  refine RD.eqI (nI_add (128 * s) 122) ?_
  refine RD.iL (pc := 41) (n := 1024) ((128 * s) + 122) (v := D (15, 0, 0) ((128 * s) + 122)) rfl dX6_call_41 (ok15 (by decide)) rfl rfl (by omega) (by decide) ?_
  refine RD.istore (pc := 42) (ls' := [some (rR (14, 0, 0)), some (rI (nI s)), some (rI 4), some (rI (D (15, 0, 0) ((128 * s) + 120))), some (rI (D (15, 0, 0) ((128 * s) + 121))), some (rI (D (15, 0, 0) ((128 * s) + 122)))]) dX6_call_42 (by decide) rfl ?_
  refine RD.iload_n (pc := 44) dX6_call_44 rfl ?_
  refine RD.tableIn (pc := 45) 189 dX6_call_45 (by decide) (by decide) rfl (by decide) ?_
  refine RD.aload_n (pc := 189) dX6_call_189 rfl ?_
  refine RD.getR (pc := 190) dX6_call_190 flX6_13 ok14 rfl rfl ?_
  refine RD.iload_n (pc := 193) dX6_call_193 rfl ?_
  refine RD.aload_n (pc := 194) dX6_call_194 rfl ?_
  refine RD.iload_n (pc := 195) dX6_call_195 rfl ?_
  refine RD.iload_n (pc := 196) dX6_call_196 rfl ?_
  refine RD.iload (pc := 197) dX6_call_197 rfl ?_
  refine RD.iload (pc := 199) dX6_call_199 rfl ?_
  refine RD.if_ne (pc := 201) 208 dX6_call_201 (by decide) (fun c201 => absurd hq c201) (fun c201 => ?_)
  refine RD.iconst (pc := 204) (v := 0) dX6_call_204 (by decide) ?_
  refine RD.goto (pc := 205) 209 dX6_call_205 (by decide) ?_
  refine RD.cV4 (pc := 209) dX6_call_209 mlX6_117 rfl ok14 rfl hc (leb rfl) ?_
  refine RD.iast (pc := 212) (n := 8) s dX6_call_212 (ok15 (by decide)) rfl rfl hs (by decide) ?_
  refine RD.goto (pc := 213) 391 dX6_call_213 (by decide) ?_
  refine RD.ret (pc := 391) ⟨rfl, dX6_call_391⟩ ?_
  exact ⟨rfl, rfl⟩

set_option maxRecDepth 20000 in
set_option maxHeartbeats 1000000 in
theorem m_call4b (K : EK) (d : Nat) {s : Nat} (hs : s < 8) (D : DT) (hq : ¬ D (15, 0, 0) (128 * s + 122) = 0) {r : Int32} {D2 : DT} (hc : CF K mX6_passes d [rR (14, 0, 0), rI (nI s), rI (D (15, 0, 0) (128 * s + 120)), rI (D (15, 0, 0) (128 * s + 121)), rI 1] D (some (rI r)) D2) : CF K mX6_call (d + 1) [rR (14, 0, 0), rI (nI s), rI 4] D (none) (up D2 (15, 1, 0) s r) := by
  refine CF.of [some (rR (14, 0, 0)), some (rI (nI s)), some (rI 4), none, none, none] (by decide) (leb rfl) rfl ?_
  refine RD.aload_n (pc := 0) dX6_call_0 rfl ?_
  refine RD.getR (pc := 1) dX6_call_1 flX6_9 ok14 rfl rfl ?_
  refine RD.sipush (pc := 4) (v := 128) dX6_call_4 (by decide) ?_
  refine RD.iload_n (pc := 7) dX6_call_7 rfl ?_
  refine RD.imul (pc := 8) dX6_call_8 ?_
  refine RD.eqI (pk_mul 128 s) ?_
  refine RD.bipush (pc := 9) (v := 120) dX6_call_9 (by decide) ?_
  refine RD.iadd (pc := 11) dX6_call_11 ?_
  refine RD.eqI (nI_add (128 * s) 120) ?_
  refine RD.iL (pc := 12) (n := 1024) ((128 * s) + 120) (v := D (15, 0, 0) ((128 * s) + 120)) rfl dX6_call_12 (ok15 (by decide)) rfl rfl (by omega) (by decide) ?_
  refine RD.istore_n (pc := 13) (ls' := [some (rR (14, 0, 0)), some (rI (nI s)), some (rI 4), some (rI (D (15, 0, 0) ((128 * s) + 120))), none, none]) dX6_call_13 (by decide) rfl ?_
  refine RD.aload_n (pc := 14) dX6_call_14 rfl ?_
  refine RD.getR (pc := 15) dX6_call_15 flX6_9 ok14 rfl rfl ?_
  refine RD.sipush (pc := 18) (v := 128) dX6_call_18 (by decide) ?_
  refine RD.iload_n (pc := 21) dX6_call_21 rfl ?_
  refine RD.imul (pc := 22) dX6_call_22 ?_
  refine RD.eqI (pk_mul 128 s) ?_
  refine RD.bipush (pc := 23) (v := 121) dX6_call_23 (by decide) ?_
  refine RD.iadd (pc := 25) dX6_call_25 ?_
  refine RD.eqI (nI_add (128 * s) 121) ?_
  refine RD.iL (pc := 26) (n := 1024) ((128 * s) + 121) (v := D (15, 0, 0) ((128 * s) + 121)) rfl dX6_call_26 (ok15 (by decide)) rfl rfl (by omega) (by decide) ?_
  refine RD.istore (pc := 27) (ls' := [some (rR (14, 0, 0)), some (rI (nI s)), some (rI 4), some (rI (D (15, 0, 0) ((128 * s) + 120))), some (rI (D (15, 0, 0) ((128 * s) + 121))), none]) dX6_call_27 (by decide) rfl ?_
  refine RD.aload_n (pc := 29) dX6_call_29 rfl ?_
  refine RD.getR (pc := 30) dX6_call_30 flX6_9 ok14 rfl rfl ?_
  refine RD.sipush (pc := 33) (v := 128) dX6_call_33 (by decide) ?_
  refine RD.iload_n (pc := 36) dX6_call_36 rfl ?_
  refine RD.imul (pc := 37) dX6_call_37 ?_
  refine RD.eqI (pk_mul 128 s) ?_
  refine RD.bipush (pc := 38) (v := 122) dX6_call_38 (by decide) ?_
  refine RD.iadd (pc := 40) dX6_call_40 ?_
  refine RD.eqI (nI_add (128 * s) 122) ?_
  refine RD.iL (pc := 41) (n := 1024) ((128 * s) + 122) (v := D (15, 0, 0) ((128 * s) + 122)) rfl dX6_call_41 (ok15 (by decide)) rfl rfl (by omega) (by decide) ?_
  refine RD.istore (pc := 42) (ls' := [some (rR (14, 0, 0)), some (rI (nI s)), some (rI 4), some (rI (D (15, 0, 0) ((128 * s) + 120))), some (rI (D (15, 0, 0) ((128 * s) + 121))), some (rI (D (15, 0, 0) ((128 * s) + 122)))]) dX6_call_42 (by decide) rfl ?_
  refine RD.iload_n (pc := 44) dX6_call_44 rfl ?_
  refine RD.tableIn (pc := 45) 189 dX6_call_45 (by decide) (by decide) rfl (by decide) ?_
  refine RD.aload_n (pc := 189) dX6_call_189 rfl ?_
  refine RD.getR (pc := 190) dX6_call_190 flX6_13 ok14 rfl rfl ?_
  refine RD.iload_n (pc := 193) dX6_call_193 rfl ?_
  refine RD.aload_n (pc := 194) dX6_call_194 rfl ?_
  refine RD.iload_n (pc := 195) dX6_call_195 rfl ?_
  refine RD.iload_n (pc := 196) dX6_call_196 rfl ?_
  refine RD.iload (pc := 197) dX6_call_197 rfl ?_
  refine RD.iload (pc := 199) dX6_call_199 rfl ?_
  refine RD.if_ne (pc := 201) 208 dX6_call_201 (by decide) (fun c201 => ?_) (fun c201 => absurd c201 hq)
  refine RD.iconst (pc := 208) (v := 1) dX6_call_208 (by decide) ?_
  refine RD.cV4 (pc := 209) dX6_call_209 mlX6_117 rfl ok14 rfl hc (leb rfl) ?_
  refine RD.iast (pc := 212) (n := 8) s dX6_call_212 (ok15 (by decide)) rfl rfl hs (by decide) ?_
  refine RD.goto (pc := 213) 391 dX6_call_213 (by decide) ?_
  refine RD.ret (pc := 391) ⟨rfl, dX6_call_391⟩ ?_
  exact ⟨rfl, rfl⟩

set_option maxRecDepth 20000 in
set_option maxHeartbeats 1000000 in
theorem m_call5 (K : EK) (d : Nat) {s : Nat} (hs : s < 8) (D : DT) {r : Int32} {D2 : DT} (hc : CF K mX6_receives d [rR (14, 0, 0), rI (nI s)] D (some (rI r)) D2) : CF K mX6_call (d + 1) [rR (14, 0, 0), rI (nI s), rI 5] D (none) (up D2 (15, 1, 0) s r) := by
  refine CF.of [some (rR (14, 0, 0)), some (rI (nI s)), some (rI 5), none, none, none] (by decide) (leb rfl) rfl ?_
  refine RD.aload_n (pc := 0) dX6_call_0 rfl ?_
  refine RD.getR (pc := 1) dX6_call_1 flX6_9 ok14 rfl rfl ?_
  refine RD.sipush (pc := 4) (v := 128) dX6_call_4 (by decide) ?_
  refine RD.iload_n (pc := 7) dX6_call_7 rfl ?_
  refine RD.imul (pc := 8) dX6_call_8 ?_
  refine RD.eqI (pk_mul 128 s) ?_
  refine RD.bipush (pc := 9) (v := 120) dX6_call_9 (by decide) ?_
  refine RD.iadd (pc := 11) dX6_call_11 ?_
  refine RD.eqI (nI_add (128 * s) 120) ?_
  refine RD.iL (pc := 12) (n := 1024) ((128 * s) + 120) (v := D (15, 0, 0) ((128 * s) + 120)) rfl dX6_call_12 (ok15 (by decide)) rfl rfl (by omega) (by decide) ?_
  refine RD.istore_n (pc := 13) (ls' := [some (rR (14, 0, 0)), some (rI (nI s)), some (rI 5), some (rI (D (15, 0, 0) ((128 * s) + 120))), none, none]) dX6_call_13 (by decide) rfl ?_
  refine RD.aload_n (pc := 14) dX6_call_14 rfl ?_
  refine RD.getR (pc := 15) dX6_call_15 flX6_9 ok14 rfl rfl ?_
  refine RD.sipush (pc := 18) (v := 128) dX6_call_18 (by decide) ?_
  refine RD.iload_n (pc := 21) dX6_call_21 rfl ?_
  refine RD.imul (pc := 22) dX6_call_22 ?_
  refine RD.eqI (pk_mul 128 s) ?_
  refine RD.bipush (pc := 23) (v := 121) dX6_call_23 (by decide) ?_
  refine RD.iadd (pc := 25) dX6_call_25 ?_
  refine RD.eqI (nI_add (128 * s) 121) ?_
  refine RD.iL (pc := 26) (n := 1024) ((128 * s) + 121) (v := D (15, 0, 0) ((128 * s) + 121)) rfl dX6_call_26 (ok15 (by decide)) rfl rfl (by omega) (by decide) ?_
  refine RD.istore (pc := 27) (ls' := [some (rR (14, 0, 0)), some (rI (nI s)), some (rI 5), some (rI (D (15, 0, 0) ((128 * s) + 120))), some (rI (D (15, 0, 0) ((128 * s) + 121))), none]) dX6_call_27 (by decide) rfl ?_
  refine RD.aload_n (pc := 29) dX6_call_29 rfl ?_
  refine RD.getR (pc := 30) dX6_call_30 flX6_9 ok14 rfl rfl ?_
  refine RD.sipush (pc := 33) (v := 128) dX6_call_33 (by decide) ?_
  refine RD.iload_n (pc := 36) dX6_call_36 rfl ?_
  refine RD.imul (pc := 37) dX6_call_37 ?_
  refine RD.eqI (pk_mul 128 s) ?_
  refine RD.bipush (pc := 38) (v := 122) dX6_call_38 (by decide) ?_
  refine RD.iadd (pc := 40) dX6_call_40 ?_
  refine RD.eqI (nI_add (128 * s) 122) ?_
  refine RD.iL (pc := 41) (n := 1024) ((128 * s) + 122) (v := D (15, 0, 0) ((128 * s) + 122)) rfl dX6_call_41 (ok15 (by decide)) rfl rfl (by omega) (by decide) ?_
  refine RD.istore (pc := 42) (ls' := [some (rR (14, 0, 0)), some (rI (nI s)), some (rI 5), some (rI (D (15, 0, 0) ((128 * s) + 120))), some (rI (D (15, 0, 0) ((128 * s) + 121))), some (rI (D (15, 0, 0) ((128 * s) + 122)))]) dX6_call_42 (by decide) rfl ?_
  refine RD.iload_n (pc := 44) dX6_call_44 rfl ?_
  refine RD.tableIn (pc := 45) 216 dX6_call_45 (by decide) (by decide) rfl (by decide) ?_
  refine RD.aload_n (pc := 216) dX6_call_216 rfl ?_
  refine RD.getR (pc := 217) dX6_call_217 flX6_13 ok14 rfl rfl ?_
  refine RD.iload_n (pc := 220) dX6_call_220 rfl ?_
  refine RD.aload_n (pc := 221) dX6_call_221 rfl ?_
  refine RD.iload_n (pc := 222) dX6_call_222 rfl ?_
  refine RD.cV1 (pc := 223) dX6_call_223 mlX6_121 rfl ok14 rfl hc (leb rfl) ?_
  refine RD.iast (pc := 226) (n := 8) s dX6_call_226 (ok15 (by decide)) rfl rfl hs (by decide) ?_
  refine RD.goto (pc := 227) 391 dX6_call_227 (by decide) ?_
  refine RD.ret (pc := 391) ⟨rfl, dX6_call_391⟩ ?_
  exact ⟨rfl, rfl⟩

set_option maxRecDepth 20000 in
set_option maxHeartbeats 1000000 in
theorem m_call7 (K : EK) (d : Nat) {s : Nat} (hs : s < 8) (D : DT) {r : Int32} {D2 : DT} (hc : CF K mX6_reads d [rR (14, 0, 0), rI (nI s), rI (D (15, 0, 0) (128 * s + 120)), rI (D (15, 0, 0) (128 * s + 121))] D (some (rI r)) D2) : CF K mX6_call (d + 1) [rR (14, 0, 0), rI (nI s), rI 7] D (none) (up D2 (15, 1, 0) s r) := by
  refine CF.of [some (rR (14, 0, 0)), some (rI (nI s)), some (rI 7), none, none, none] (by decide) (leb rfl) rfl ?_
  refine RD.aload_n (pc := 0) dX6_call_0 rfl ?_
  refine RD.getR (pc := 1) dX6_call_1 flX6_9 ok14 rfl rfl ?_
  refine RD.sipush (pc := 4) (v := 128) dX6_call_4 (by decide) ?_
  refine RD.iload_n (pc := 7) dX6_call_7 rfl ?_
  refine RD.imul (pc := 8) dX6_call_8 ?_
  refine RD.eqI (pk_mul 128 s) ?_
  refine RD.bipush (pc := 9) (v := 120) dX6_call_9 (by decide) ?_
  refine RD.iadd (pc := 11) dX6_call_11 ?_
  refine RD.eqI (nI_add (128 * s) 120) ?_
  refine RD.iL (pc := 12) (n := 1024) ((128 * s) + 120) (v := D (15, 0, 0) ((128 * s) + 120)) rfl dX6_call_12 (ok15 (by decide)) rfl rfl (by omega) (by decide) ?_
  refine RD.istore_n (pc := 13) (ls' := [some (rR (14, 0, 0)), some (rI (nI s)), some (rI 7), some (rI (D (15, 0, 0) ((128 * s) + 120))), none, none]) dX6_call_13 (by decide) rfl ?_
  refine RD.aload_n (pc := 14) dX6_call_14 rfl ?_
  refine RD.getR (pc := 15) dX6_call_15 flX6_9 ok14 rfl rfl ?_
  refine RD.sipush (pc := 18) (v := 128) dX6_call_18 (by decide) ?_
  refine RD.iload_n (pc := 21) dX6_call_21 rfl ?_
  refine RD.imul (pc := 22) dX6_call_22 ?_
  refine RD.eqI (pk_mul 128 s) ?_
  refine RD.bipush (pc := 23) (v := 121) dX6_call_23 (by decide) ?_
  refine RD.iadd (pc := 25) dX6_call_25 ?_
  refine RD.eqI (nI_add (128 * s) 121) ?_
  refine RD.iL (pc := 26) (n := 1024) ((128 * s) + 121) (v := D (15, 0, 0) ((128 * s) + 121)) rfl dX6_call_26 (ok15 (by decide)) rfl rfl (by omega) (by decide) ?_
  refine RD.istore (pc := 27) (ls' := [some (rR (14, 0, 0)), some (rI (nI s)), some (rI 7), some (rI (D (15, 0, 0) ((128 * s) + 120))), some (rI (D (15, 0, 0) ((128 * s) + 121))), none]) dX6_call_27 (by decide) rfl ?_
  refine RD.aload_n (pc := 29) dX6_call_29 rfl ?_
  refine RD.getR (pc := 30) dX6_call_30 flX6_9 ok14 rfl rfl ?_
  refine RD.sipush (pc := 33) (v := 128) dX6_call_33 (by decide) ?_
  refine RD.iload_n (pc := 36) dX6_call_36 rfl ?_
  refine RD.imul (pc := 37) dX6_call_37 ?_
  refine RD.eqI (pk_mul 128 s) ?_
  refine RD.bipush (pc := 38) (v := 122) dX6_call_38 (by decide) ?_
  refine RD.iadd (pc := 40) dX6_call_40 ?_
  refine RD.eqI (nI_add (128 * s) 122) ?_
  refine RD.iL (pc := 41) (n := 1024) ((128 * s) + 122) (v := D (15, 0, 0) ((128 * s) + 122)) rfl dX6_call_41 (ok15 (by decide)) rfl rfl (by omega) (by decide) ?_
  refine RD.istore (pc := 42) (ls' := [some (rR (14, 0, 0)), some (rI (nI s)), some (rI 7), some (rI (D (15, 0, 0) ((128 * s) + 120))), some (rI (D (15, 0, 0) ((128 * s) + 121))), some (rI (D (15, 0, 0) ((128 * s) + 122)))]) dX6_call_42 (by decide) rfl ?_
  refine RD.iload_n (pc := 44) dX6_call_44 rfl ?_
  refine RD.tableIn (pc := 45) 253 dX6_call_45 (by decide) (by decide) rfl (by decide) ?_
  refine RD.aload_n (pc := 253) dX6_call_253 rfl ?_
  refine RD.getR (pc := 254) dX6_call_254 flX6_13 ok14 rfl rfl ?_
  refine RD.iload_n (pc := 257) dX6_call_257 rfl ?_
  refine RD.aload_n (pc := 258) dX6_call_258 rfl ?_
  refine RD.iload_n (pc := 259) dX6_call_259 rfl ?_
  refine RD.iload_n (pc := 260) dX6_call_260 rfl ?_
  refine RD.iload (pc := 261) dX6_call_261 rfl ?_
  refine RD.cV3 (pc := 263) dX6_call_263 mlX6_127 rfl ok14 rfl hc (leb rfl) ?_
  refine RD.iast (pc := 266) (n := 8) s dX6_call_266 (ok15 (by decide)) rfl rfl hs (by decide) ?_
  refine RD.goto (pc := 267) 391 dX6_call_267 (by decide) ?_
  refine RD.ret (pc := 391) ⟨rfl, dX6_call_391⟩ ?_
  exact ⟨rfl, rfl⟩

set_option maxRecDepth 20000 in
set_option maxHeartbeats 1000000 in
theorem m_call9 (K : EK) (d : Nat) {s : Nat} (hs : s < 8) (D : DT) {r : Int32} {D2 : DT} (hc : CF K mX6_spawns d [rR (14, 0, 0), rI (nI s), rI (D (15, 0, 0) (128 * s + 120)), rI (D (15, 0, 0) (128 * s + 121)), rI (D (15, 0, 0) (128 * s + 122))] D (some (rI r)) D2) : CF K mX6_call (d + 1) [rR (14, 0, 0), rI (nI s), rI 9] D (none) (up D2 (15, 1, 0) s r) := by
  refine CF.of [some (rR (14, 0, 0)), some (rI (nI s)), some (rI 9), none, none, none] (by decide) (leb rfl) rfl ?_
  refine RD.aload_n (pc := 0) dX6_call_0 rfl ?_
  refine RD.getR (pc := 1) dX6_call_1 flX6_9 ok14 rfl rfl ?_
  refine RD.sipush (pc := 4) (v := 128) dX6_call_4 (by decide) ?_
  refine RD.iload_n (pc := 7) dX6_call_7 rfl ?_
  refine RD.imul (pc := 8) dX6_call_8 ?_
  refine RD.eqI (pk_mul 128 s) ?_
  refine RD.bipush (pc := 9) (v := 120) dX6_call_9 (by decide) ?_
  refine RD.iadd (pc := 11) dX6_call_11 ?_
  refine RD.eqI (nI_add (128 * s) 120) ?_
  refine RD.iL (pc := 12) (n := 1024) ((128 * s) + 120) (v := D (15, 0, 0) ((128 * s) + 120)) rfl dX6_call_12 (ok15 (by decide)) rfl rfl (by omega) (by decide) ?_
  refine RD.istore_n (pc := 13) (ls' := [some (rR (14, 0, 0)), some (rI (nI s)), some (rI 9), some (rI (D (15, 0, 0) ((128 * s) + 120))), none, none]) dX6_call_13 (by decide) rfl ?_
  refine RD.aload_n (pc := 14) dX6_call_14 rfl ?_
  refine RD.getR (pc := 15) dX6_call_15 flX6_9 ok14 rfl rfl ?_
  refine RD.sipush (pc := 18) (v := 128) dX6_call_18 (by decide) ?_
  refine RD.iload_n (pc := 21) dX6_call_21 rfl ?_
  refine RD.imul (pc := 22) dX6_call_22 ?_
  refine RD.eqI (pk_mul 128 s) ?_
  refine RD.bipush (pc := 23) (v := 121) dX6_call_23 (by decide) ?_
  refine RD.iadd (pc := 25) dX6_call_25 ?_
  refine RD.eqI (nI_add (128 * s) 121) ?_
  refine RD.iL (pc := 26) (n := 1024) ((128 * s) + 121) (v := D (15, 0, 0) ((128 * s) + 121)) rfl dX6_call_26 (ok15 (by decide)) rfl rfl (by omega) (by decide) ?_
  refine RD.istore (pc := 27) (ls' := [some (rR (14, 0, 0)), some (rI (nI s)), some (rI 9), some (rI (D (15, 0, 0) ((128 * s) + 120))), some (rI (D (15, 0, 0) ((128 * s) + 121))), none]) dX6_call_27 (by decide) rfl ?_
  refine RD.aload_n (pc := 29) dX6_call_29 rfl ?_
  refine RD.getR (pc := 30) dX6_call_30 flX6_9 ok14 rfl rfl ?_
  refine RD.sipush (pc := 33) (v := 128) dX6_call_33 (by decide) ?_
  refine RD.iload_n (pc := 36) dX6_call_36 rfl ?_
  refine RD.imul (pc := 37) dX6_call_37 ?_
  refine RD.eqI (pk_mul 128 s) ?_
  refine RD.bipush (pc := 38) (v := 122) dX6_call_38 (by decide) ?_
  refine RD.iadd (pc := 40) dX6_call_40 ?_
  refine RD.eqI (nI_add (128 * s) 122) ?_
  refine RD.iL (pc := 41) (n := 1024) ((128 * s) + 122) (v := D (15, 0, 0) ((128 * s) + 122)) rfl dX6_call_41 (ok15 (by decide)) rfl rfl (by omega) (by decide) ?_
  refine RD.istore (pc := 42) (ls' := [some (rR (14, 0, 0)), some (rI (nI s)), some (rI 9), some (rI (D (15, 0, 0) ((128 * s) + 120))), some (rI (D (15, 0, 0) ((128 * s) + 121))), some (rI (D (15, 0, 0) ((128 * s) + 122)))]) dX6_call_42 (by decide) rfl ?_
  refine RD.iload_n (pc := 44) dX6_call_44 rfl ?_
  refine RD.tableIn (pc := 45) 336 dX6_call_45 (by decide) (by decide) rfl (by decide) ?_
  refine RD.aload_n (pc := 336) dX6_call_336 rfl ?_
  refine RD.getR (pc := 337) dX6_call_337 flX6_13 ok14 rfl rfl ?_
  refine RD.iload_n (pc := 340) dX6_call_340 rfl ?_
  refine RD.aload_n (pc := 341) dX6_call_341 rfl ?_
  refine RD.iload_n (pc := 342) dX6_call_342 rfl ?_
  refine RD.iload_n (pc := 343) dX6_call_343 rfl ?_
  refine RD.iload (pc := 344) dX6_call_344 rfl ?_
  refine RD.iload (pc := 346) dX6_call_346 rfl ?_
  refine RD.cV4 (pc := 348) dX6_call_348 mlX6_130 rfl ok14 rfl hc (leb rfl) ?_
  refine RD.iast (pc := 351) (n := 8) s dX6_call_351 (ok15 (by decide)) rfl rfl hs (by decide) ?_
  refine RD.goto (pc := 352) 391 dX6_call_352 (by decide) ?_
  refine RD.ret (pc := 391) ⟨rfl, dX6_call_391⟩ ?_
  exact ⟨rfl, rfl⟩

set_option maxRecDepth 20000 in
set_option maxHeartbeats 1000000 in
theorem m_call10 (K : EK) (d : Nat) {s : Nat} (hs : s < 8) (D : DT) {D2 : DT} (hc : CF K mX6_puts d [rR (14, 0, 0), rI (nI s), rI (D (15, 0, 0) (128 * s + 120))] D (none) D2) : CF K mX6_call (d + 1) [rR (14, 0, 0), rI (nI s), rI 10] D (none) (up D2 (15, 1, 0) s 1) := by
  refine CF.of [some (rR (14, 0, 0)), some (rI (nI s)), some (rI 10), none, none, none] (by decide) (leb rfl) rfl ?_
  refine RD.aload_n (pc := 0) dX6_call_0 rfl ?_
  refine RD.getR (pc := 1) dX6_call_1 flX6_9 ok14 rfl rfl ?_
  refine RD.sipush (pc := 4) (v := 128) dX6_call_4 (by decide) ?_
  refine RD.iload_n (pc := 7) dX6_call_7 rfl ?_
  refine RD.imul (pc := 8) dX6_call_8 ?_
  refine RD.eqI (pk_mul 128 s) ?_
  refine RD.bipush (pc := 9) (v := 120) dX6_call_9 (by decide) ?_
  refine RD.iadd (pc := 11) dX6_call_11 ?_
  refine RD.eqI (nI_add (128 * s) 120) ?_
  refine RD.iL (pc := 12) (n := 1024) ((128 * s) + 120) (v := D (15, 0, 0) ((128 * s) + 120)) rfl dX6_call_12 (ok15 (by decide)) rfl rfl (by omega) (by decide) ?_
  refine RD.istore_n (pc := 13) (ls' := [some (rR (14, 0, 0)), some (rI (nI s)), some (rI 10), some (rI (D (15, 0, 0) ((128 * s) + 120))), none, none]) dX6_call_13 (by decide) rfl ?_
  refine RD.aload_n (pc := 14) dX6_call_14 rfl ?_
  refine RD.getR (pc := 15) dX6_call_15 flX6_9 ok14 rfl rfl ?_
  refine RD.sipush (pc := 18) (v := 128) dX6_call_18 (by decide) ?_
  refine RD.iload_n (pc := 21) dX6_call_21 rfl ?_
  refine RD.imul (pc := 22) dX6_call_22 ?_
  refine RD.eqI (pk_mul 128 s) ?_
  refine RD.bipush (pc := 23) (v := 121) dX6_call_23 (by decide) ?_
  refine RD.iadd (pc := 25) dX6_call_25 ?_
  refine RD.eqI (nI_add (128 * s) 121) ?_
  refine RD.iL (pc := 26) (n := 1024) ((128 * s) + 121) (v := D (15, 0, 0) ((128 * s) + 121)) rfl dX6_call_26 (ok15 (by decide)) rfl rfl (by omega) (by decide) ?_
  refine RD.istore (pc := 27) (ls' := [some (rR (14, 0, 0)), some (rI (nI s)), some (rI 10), some (rI (D (15, 0, 0) ((128 * s) + 120))), some (rI (D (15, 0, 0) ((128 * s) + 121))), none]) dX6_call_27 (by decide) rfl ?_
  refine RD.aload_n (pc := 29) dX6_call_29 rfl ?_
  refine RD.getR (pc := 30) dX6_call_30 flX6_9 ok14 rfl rfl ?_
  refine RD.sipush (pc := 33) (v := 128) dX6_call_33 (by decide) ?_
  refine RD.iload_n (pc := 36) dX6_call_36 rfl ?_
  refine RD.imul (pc := 37) dX6_call_37 ?_
  refine RD.eqI (pk_mul 128 s) ?_
  refine RD.bipush (pc := 38) (v := 122) dX6_call_38 (by decide) ?_
  refine RD.iadd (pc := 40) dX6_call_40 ?_
  refine RD.eqI (nI_add (128 * s) 122) ?_
  refine RD.iL (pc := 41) (n := 1024) ((128 * s) + 122) (v := D (15, 0, 0) ((128 * s) + 122)) rfl dX6_call_41 (ok15 (by decide)) rfl rfl (by omega) (by decide) ?_
  refine RD.istore (pc := 42) (ls' := [some (rR (14, 0, 0)), some (rI (nI s)), some (rI 10), some (rI (D (15, 0, 0) ((128 * s) + 120))), some (rI (D (15, 0, 0) ((128 * s) + 121))), some (rI (D (15, 0, 0) ((128 * s) + 122)))]) dX6_call_42 (by decide) rfl ?_
  refine RD.iload_n (pc := 44) dX6_call_44 rfl ?_
  refine RD.tableIn (pc := 45) 355 dX6_call_45 (by decide) (by decide) rfl (by decide) ?_
  refine RD.aload_n (pc := 355) dX6_call_355 rfl ?_
  refine RD.iload_n (pc := 356) dX6_call_356 rfl ?_
  refine RD.iload_n (pc := 357) dX6_call_357 rfl ?_
  refine RD.cV2v (pc := 358) dX6_call_358 mlX6_133 rfl ok14 rfl hc (leb rfl) ?_
  refine RD.aload_n (pc := 361) dX6_call_361 rfl ?_
  refine RD.getR (pc := 362) dX6_call_362 flX6_13 ok14 rfl rfl ?_
  refine RD.iload_n (pc := 365) dX6_call_365 rfl ?_
  refine RD.iconst (pc := 366) (v := 1) dX6_call_366 (by decide) ?_
  refine RD.iast (pc := 367) (n := 8) s dX6_call_367 (ok15 (by decide)) rfl rfl hs (by decide) ?_
  refine RD.goto (pc := 368) 391 dX6_call_368 (by decide) ?_
  refine RD.ret (pc := 391) ⟨rfl, dX6_call_391⟩ ?_
  exact ⟨rfl, rfl⟩

set_option maxRecDepth 20000 in
set_option maxHeartbeats 1000000 in
theorem m_call11 (K : EK) (d : Nat) {s : Nat} (hs : s < 8) (D : DT) : CF K mX6_call (d + 1) [rR (14, 0, 0), rI (nI s), rI 11] D (none) (up D (15, 1, 0) s (nI (mnF D s))) := by
  refine CF.of [some (rR (14, 0, 0)), some (rI (nI s)), some (rI 11), none, none, none] (by decide) (leb rfl) rfl ?_
  refine RD.aload_n (pc := 0) dX6_call_0 rfl ?_
  refine RD.getR (pc := 1) dX6_call_1 flX6_9 ok14 rfl rfl ?_
  refine RD.sipush (pc := 4) (v := 128) dX6_call_4 (by decide) ?_
  refine RD.iload_n (pc := 7) dX6_call_7 rfl ?_
  refine RD.imul (pc := 8) dX6_call_8 ?_
  refine RD.eqI (pk_mul 128 s) ?_
  refine RD.bipush (pc := 9) (v := 120) dX6_call_9 (by decide) ?_
  refine RD.iadd (pc := 11) dX6_call_11 ?_
  refine RD.eqI (nI_add (128 * s) 120) ?_
  refine RD.iL (pc := 12) (n := 1024) ((128 * s) + 120) (v := D (15, 0, 0) ((128 * s) + 120)) rfl dX6_call_12 (ok15 (by decide)) rfl rfl (by omega) (by decide) ?_
  refine RD.istore_n (pc := 13) (ls' := [some (rR (14, 0, 0)), some (rI (nI s)), some (rI 11), some (rI (D (15, 0, 0) ((128 * s) + 120))), none, none]) dX6_call_13 (by decide) rfl ?_
  refine RD.aload_n (pc := 14) dX6_call_14 rfl ?_
  refine RD.getR (pc := 15) dX6_call_15 flX6_9 ok14 rfl rfl ?_
  refine RD.sipush (pc := 18) (v := 128) dX6_call_18 (by decide) ?_
  refine RD.iload_n (pc := 21) dX6_call_21 rfl ?_
  refine RD.imul (pc := 22) dX6_call_22 ?_
  refine RD.eqI (pk_mul 128 s) ?_
  refine RD.bipush (pc := 23) (v := 121) dX6_call_23 (by decide) ?_
  refine RD.iadd (pc := 25) dX6_call_25 ?_
  refine RD.eqI (nI_add (128 * s) 121) ?_
  refine RD.iL (pc := 26) (n := 1024) ((128 * s) + 121) (v := D (15, 0, 0) ((128 * s) + 121)) rfl dX6_call_26 (ok15 (by decide)) rfl rfl (by omega) (by decide) ?_
  refine RD.istore (pc := 27) (ls' := [some (rR (14, 0, 0)), some (rI (nI s)), some (rI 11), some (rI (D (15, 0, 0) ((128 * s) + 120))), some (rI (D (15, 0, 0) ((128 * s) + 121))), none]) dX6_call_27 (by decide) rfl ?_
  refine RD.aload_n (pc := 29) dX6_call_29 rfl ?_
  refine RD.getR (pc := 30) dX6_call_30 flX6_9 ok14 rfl rfl ?_
  refine RD.sipush (pc := 33) (v := 128) dX6_call_33 (by decide) ?_
  refine RD.iload_n (pc := 36) dX6_call_36 rfl ?_
  refine RD.imul (pc := 37) dX6_call_37 ?_
  refine RD.eqI (pk_mul 128 s) ?_
  refine RD.bipush (pc := 38) (v := 122) dX6_call_38 (by decide) ?_
  refine RD.iadd (pc := 40) dX6_call_40 ?_
  refine RD.eqI (nI_add (128 * s) 122) ?_
  refine RD.iL (pc := 41) (n := 1024) ((128 * s) + 122) (v := D (15, 0, 0) ((128 * s) + 122)) rfl dX6_call_41 (ok15 (by decide)) rfl rfl (by omega) (by decide) ?_
  refine RD.istore (pc := 42) (ls' := [some (rR (14, 0, 0)), some (rI (nI s)), some (rI 11), some (rI (D (15, 0, 0) ((128 * s) + 120))), some (rI (D (15, 0, 0) ((128 * s) + 121))), some (rI (D (15, 0, 0) ((128 * s) + 122)))]) dX6_call_42 (by decide) rfl ?_
  refine RD.iload_n (pc := 44) dX6_call_44 rfl ?_
  refine RD.tableIn (pc := 45) 371 dX6_call_45 (by decide) (by decide) rfl (by decide) ?_
  refine RD.aload_n (pc := 371) dX6_call_371 rfl ?_
  refine RD.getR (pc := 372) dX6_call_372 flX6_13 ok14 rfl rfl ?_
  refine RD.iload_n (pc := 375) dX6_call_375 rfl ?_
  refine RD.aload_n (pc := 376) dX6_call_376 rfl ?_
  refine RD.iload_n (pc := 377) dX6_call_377 rfl ?_
  refine RD.cV1 (pc := 378) dX6_call_378 mlX6_136 rfl ok14 rfl (c_many K _ (l := s) (by omega) D) (leb rfl) ?_
  refine RD.iast (pc := 381) (n := 8) s dX6_call_381 (ok15 (by decide)) rfl rfl hs (by decide) ?_
  refine RD.goto (pc := 382) 391 dX6_call_382 (by decide) ?_
  refine RD.ret (pc := 391) ⟨rfl, dX6_call_391⟩ ?_
  exact ⟨rfl, rfl⟩

set_option maxRecDepth 20000 in
set_option maxHeartbeats 1000000 in
theorem m_call8N (K : EK) (d : Nat) {s : Nat} (hs : s < 8) (D : DT) {p q : Int32} (hp : D (15, 0, 0) (128 * s + 120) = p) (hq : D (15, 0, 0) (128 * s + 121) = q) (h : mfcB D p q = false) : CF K mX6_call (d + 1) [rR (14, 0, 0), rI (nI s), rI 8] D (none) (up D (15, 1, 0) s 1) := by
  refine CF.of [some (rR (14, 0, 0)), some (rI (nI s)), some (rI 8), none, none, none] (by decide) (leb rfl) rfl ?_
  refine RD.aload_n (pc := 0) dX6_call_0 rfl ?_
  refine RD.getR (pc := 1) dX6_call_1 flX6_9 ok14 rfl rfl ?_
  refine RD.sipush (pc := 4) (v := 128) dX6_call_4 (by decide) ?_
  refine RD.iload_n (pc := 7) dX6_call_7 rfl ?_
  refine RD.imul (pc := 8) dX6_call_8 ?_
  refine RD.eqI (pk_mul 128 s) ?_
  refine RD.bipush (pc := 9) (v := 120) dX6_call_9 (by decide) ?_
  refine RD.iadd (pc := 11) dX6_call_11 ?_
  refine RD.eqI (nI_add (128 * s) 120) ?_
  refine RD.iL (pc := 12) (n := 1024) ((128 * s) + 120) (v := p) hp dX6_call_12 (ok15 (by decide)) rfl rfl (by omega) (by decide) ?_
  refine RD.istore_n (pc := 13) (ls' := [some (rR (14, 0, 0)), some (rI (nI s)), some (rI 8), some (rI p), none, none]) dX6_call_13 (by decide) rfl ?_
  refine RD.aload_n (pc := 14) dX6_call_14 rfl ?_
  refine RD.getR (pc := 15) dX6_call_15 flX6_9 ok14 rfl rfl ?_
  refine RD.sipush (pc := 18) (v := 128) dX6_call_18 (by decide) ?_
  refine RD.iload_n (pc := 21) dX6_call_21 rfl ?_
  refine RD.imul (pc := 22) dX6_call_22 ?_
  refine RD.eqI (pk_mul 128 s) ?_
  refine RD.bipush (pc := 23) (v := 121) dX6_call_23 (by decide) ?_
  refine RD.iadd (pc := 25) dX6_call_25 ?_
  refine RD.eqI (nI_add (128 * s) 121) ?_
  refine RD.iL (pc := 26) (n := 1024) ((128 * s) + 121) (v := q) hq dX6_call_26 (ok15 (by decide)) rfl rfl (by omega) (by decide) ?_
  refine RD.istore (pc := 27) (ls' := [some (rR (14, 0, 0)), some (rI (nI s)), some (rI 8), some (rI p), some (rI q), none]) dX6_call_27 (by decide) rfl ?_
  refine RD.aload_n (pc := 29) dX6_call_29 rfl ?_
  refine RD.getR (pc := 30) dX6_call_30 flX6_9 ok14 rfl rfl ?_
  refine RD.sipush (pc := 33) (v := 128) dX6_call_33 (by decide) ?_
  refine RD.iload_n (pc := 36) dX6_call_36 rfl ?_
  refine RD.imul (pc := 37) dX6_call_37 ?_
  refine RD.eqI (pk_mul 128 s) ?_
  refine RD.bipush (pc := 38) (v := 122) dX6_call_38 (by decide) ?_
  refine RD.iadd (pc := 40) dX6_call_40 ?_
  refine RD.eqI (nI_add (128 * s) 122) ?_
  refine RD.iL (pc := 41) (n := 1024) ((128 * s) + 122) (v := D (15, 0, 0) ((128 * s) + 122)) rfl dX6_call_41 (ok15 (by decide)) rfl rfl (by omega) (by decide) ?_
  refine RD.istore (pc := 42) (ls' := [some (rR (14, 0, 0)), some (rI (nI s)), some (rI 8), some (rI p), some (rI q), some (rI (D (15, 0, 0) ((128 * s) + 122)))]) dX6_call_42 (by decide) rfl ?_
  refine RD.iload_n (pc := 44) dX6_call_44 rfl ?_
  refine RD.tableIn (pc := 45) 270 dX6_call_45 (by decide) (by decide) rfl (by decide) ?_
  refine RD.iload_n (pc := 270) dX6_call_270 rfl ?_
  refine RD.iconst (pc := 271) (v := 0) dX6_call_271 (by decide) ?_
  refine RD.bipush (pc := 272) (v := 63) dX6_call_272 (by decide) ?_
  refine RD.cS3 (pc := 274) dX6_call_274 mlX6_63 (c_mIsIn K _ D p 63 (by decide)) (leb rfl) ?_
  refine RD.if_eq (pc := 277) 326 dX6_call_277 (by decide) (fun c277 => ?_) (fun c277 => ?_)
  · refine RD.aload_n (pc := 326) dX6_call_326 rfl ?_
    refine RD.getR (pc := 327) dX6_call_327 flX6_13 ok14 rfl rfl ?_
    refine RD.iload_n (pc := 330) dX6_call_330 rfl ?_
    refine RD.iconst (pc := 331) (v := 1) dX6_call_331 (by decide) ?_
    refine RD.iast (pc := 332) (n := 8) s dX6_call_332 (ok15 (by decide)) rfl rfl hs (by decide) ?_
    refine RD.goto (pc := 333) 391 dX6_call_333 (by decide) ?_
    refine RD.ret (pc := 391) ⟨rfl, dX6_call_391⟩ ?_
    exact ⟨rfl, rfl⟩
  · obtain ⟨n, hn, rfl⟩ := inR_t (N := 64) (by decide) (bI_1 c277)
    refine RD.aload_n (pc := 280) dX6_call_280 rfl ?_
    refine RD.getR (pc := 281) dX6_call_281 flX6_36 ok14 rfl rfl ?_
    refine RD.iload_n (pc := 284) dX6_call_284 rfl ?_
    refine RD.zL (pc := 285) (n := 64) n (v := D (15, 8, 0) n) rfl dX6_call_285 (ok15 (by decide)) rfl rfl hn (by decide) ?_
    refine RD.if_eq (pc := 286) 326 dX6_call_286 (by decide) (fun c286 => ?_) (fun c286 => ?_)
    · refine RD.aload_n (pc := 326) dX6_call_326 rfl ?_
      refine RD.getR (pc := 327) dX6_call_327 flX6_13 ok14 rfl rfl ?_
      refine RD.iload_n (pc := 330) dX6_call_330 rfl ?_
      refine RD.iconst (pc := 331) (v := 1) dX6_call_331 (by decide) ?_
      refine RD.iast (pc := 332) (n := 8) s dX6_call_332 (ok15 (by decide)) rfl rfl hs (by decide) ?_
      refine RD.goto (pc := 333) 391 dX6_call_333 (by decide) ?_
      refine RD.ret (pc := 391) ⟨rfl, dX6_call_391⟩ ?_
      exact ⟨rfl, rfl⟩
    · refine RD.iload (pc := 289) dX6_call_289 rfl ?_
      refine RD.iconst (pc := 291) (v := 0) dX6_call_291 (by decide) ?_
      refine RD.bipush (pc := 292) (v := 7) dX6_call_292 (by decide) ?_
      refine RD.cS3 (pc := 294) dX6_call_294 mlX6_63 (c_mIsIn K _ D q 7 (by decide)) (leb rfl) ?_
      refine RD.if_eq (pc := 297) 326 dX6_call_297 (by decide) (fun c297 => ?_) (fun c297 => ?_)
      · refine RD.aload_n (pc := 326) dX6_call_326 rfl ?_
        refine RD.getR (pc := 327) dX6_call_327 flX6_13 ok14 rfl rfl ?_
        refine RD.iload_n (pc := 330) dX6_call_330 rfl ?_
        refine RD.iconst (pc := 331) (v := 1) dX6_call_331 (by decide) ?_
        refine RD.iast (pc := 332) (n := 8) s dX6_call_332 (ok15 (by decide)) rfl rfl hs (by decide) ?_
        refine RD.goto (pc := 333) 391 dX6_call_333 (by decide) ?_
        refine RD.ret (pc := 391) ⟨rfl, dX6_call_391⟩ ?_
        exact ⟨rfl, rfl⟩
      · exfalso
        revert h
        simp [mfcB, bI_1 c297, inR_nI (n := n) (N := 64) (by decide) hn, nI_clamp (n := n) (by omega), mthr, c286]

set_option maxRecDepth 20000 in
set_option maxHeartbeats 1000000 in
theorem m_call8a (K : EK) (d : Nat) {s : Nat} (hs : s < 8) (D : DT) {n e : Nat} (hn : n < 64) (he : e < 8) (hp : D (15, 0, 0) (128 * s + 120) = nI n) (hq : D (15, 0, 0) (128 * s + 121) = nI e) (h : mthr D n = true) (h2 : subM D s (8 + n) = false) : CF K mX6_call (d + 1) [rR (14, 0, 0), rI (nI s), rI 8] D (none) (up D (15, 1, 0) s 1) := by
  refine CF.of [some (rR (14, 0, 0)), some (rI (nI s)), some (rI 8), none, none, none] (by decide) (leb rfl) rfl ?_
  refine RD.aload_n (pc := 0) dX6_call_0 rfl ?_
  refine RD.getR (pc := 1) dX6_call_1 flX6_9 ok14 rfl rfl ?_
  refine RD.sipush (pc := 4) (v := 128) dX6_call_4 (by decide) ?_
  refine RD.iload_n (pc := 7) dX6_call_7 rfl ?_
  refine RD.imul (pc := 8) dX6_call_8 ?_
  refine RD.eqI (pk_mul 128 s) ?_
  refine RD.bipush (pc := 9) (v := 120) dX6_call_9 (by decide) ?_
  refine RD.iadd (pc := 11) dX6_call_11 ?_
  refine RD.eqI (nI_add (128 * s) 120) ?_
  refine RD.iL (pc := 12) (n := 1024) ((128 * s) + 120) (v := nI n) hp dX6_call_12 (ok15 (by decide)) rfl rfl (by omega) (by decide) ?_
  refine RD.istore_n (pc := 13) (ls' := [some (rR (14, 0, 0)), some (rI (nI s)), some (rI 8), some (rI (nI n)), none, none]) dX6_call_13 (by decide) rfl ?_
  refine RD.aload_n (pc := 14) dX6_call_14 rfl ?_
  refine RD.getR (pc := 15) dX6_call_15 flX6_9 ok14 rfl rfl ?_
  refine RD.sipush (pc := 18) (v := 128) dX6_call_18 (by decide) ?_
  refine RD.iload_n (pc := 21) dX6_call_21 rfl ?_
  refine RD.imul (pc := 22) dX6_call_22 ?_
  refine RD.eqI (pk_mul 128 s) ?_
  refine RD.bipush (pc := 23) (v := 121) dX6_call_23 (by decide) ?_
  refine RD.iadd (pc := 25) dX6_call_25 ?_
  refine RD.eqI (nI_add (128 * s) 121) ?_
  refine RD.iL (pc := 26) (n := 1024) ((128 * s) + 121) (v := nI e) hq dX6_call_26 (ok15 (by decide)) rfl rfl (by omega) (by decide) ?_
  refine RD.istore (pc := 27) (ls' := [some (rR (14, 0, 0)), some (rI (nI s)), some (rI 8), some (rI (nI n)), some (rI (nI e)), none]) dX6_call_27 (by decide) rfl ?_
  refine RD.aload_n (pc := 29) dX6_call_29 rfl ?_
  refine RD.getR (pc := 30) dX6_call_30 flX6_9 ok14 rfl rfl ?_
  refine RD.sipush (pc := 33) (v := 128) dX6_call_33 (by decide) ?_
  refine RD.iload_n (pc := 36) dX6_call_36 rfl ?_
  refine RD.imul (pc := 37) dX6_call_37 ?_
  refine RD.eqI (pk_mul 128 s) ?_
  refine RD.bipush (pc := 38) (v := 122) dX6_call_38 (by decide) ?_
  refine RD.iadd (pc := 40) dX6_call_40 ?_
  refine RD.eqI (nI_add (128 * s) 122) ?_
  refine RD.iL (pc := 41) (n := 1024) ((128 * s) + 122) (v := D (15, 0, 0) ((128 * s) + 122)) rfl dX6_call_41 (ok15 (by decide)) rfl rfl (by omega) (by decide) ?_
  refine RD.istore (pc := 42) (ls' := [some (rR (14, 0, 0)), some (rI (nI s)), some (rI 8), some (rI (nI n)), some (rI (nI e)), some (rI (D (15, 0, 0) ((128 * s) + 122)))]) dX6_call_42 (by decide) rfl ?_
  refine RD.iload_n (pc := 44) dX6_call_44 rfl ?_
  refine RD.tableIn (pc := 45) 270 dX6_call_45 (by decide) (by decide) rfl (by decide) ?_
  refine RD.iload_n (pc := 270) dX6_call_270 rfl ?_
  refine RD.iconst (pc := 271) (v := 0) dX6_call_271 (by decide) ?_
  refine RD.bipush (pc := 272) (v := 63) dX6_call_272 (by decide) ?_
  refine RD.cS3 (pc := 274) dX6_call_274 mlX6_63 (c_mIsIn K _ D (nI n) 63 (by decide)) (leb rfl) ?_
  refine RD.if_eq (pc := 277) 326 dX6_call_277 (by decide) (fun c277 => absurd c277 (bIin (by decide) hn)) (fun c277 => ?_)
  refine RD.aload_n (pc := 280) dX6_call_280 rfl ?_
  refine RD.getR (pc := 281) dX6_call_281 flX6_36 ok14 rfl rfl ?_
  refine RD.iload_n (pc := 284) dX6_call_284 rfl ?_
  refine RD.zL (pc := 285) (n := 64) n (v := D (15, 8, 0) n) rfl dX6_call_285 (ok15 (by decide)) rfl rfl hn (by decide) ?_
  refine RD.if_eq (pc := 286) 326 dX6_call_286 (by decide) (fun c286 => absurd c286 (by simpa [mthr] using h)) (fun c286 => ?_)
  refine RD.iload (pc := 289) dX6_call_289 rfl ?_
  refine RD.iconst (pc := 291) (v := 0) dX6_call_291 (by decide) ?_
  refine RD.bipush (pc := 292) (v := 7) dX6_call_292 (by decide) ?_
  refine RD.cS3 (pc := 294) dX6_call_294 mlX6_63 (c_mIsIn K _ D (nI e) 7 (by decide)) (leb rfl) ?_
  refine RD.if_eq (pc := 297) 326 dX6_call_297 (by decide) (fun c297 => absurd c297 (bIin (by decide) he)) (fun c297 => ?_)
  refine RD.aload_n (pc := 300) dX6_call_300 rfl ?_
  refine RD.iload_n (pc := 301) dX6_call_301 rfl ?_
  refine RD.bipush (pc := 302) (v := 8) dX6_call_302 (by decide) ?_
  refine RD.iload_n (pc := 304) dX6_call_304 rfl ?_
  refine RD.iadd (pc := 305) dX6_call_305 ?_
  refine RD.eqI (nI_add 8 n) ?_
  refine RD.cV2 (pc := 306) dX6_call_306 mlX6_79 rfl ok14 rfl (c_isInLabel K _ (l := s) (m := (8 + n)) (by omega) (by omega) D) (leb rfl) ?_
  refine RD.if_eq (pc := 309) 326 dX6_call_309 (by decide) (fun c309 => ?_) (fun c309 => absurd (by rw [h2]; rfl) c309)
  refine RD.aload_n (pc := 326) dX6_call_326 rfl ?_
  refine RD.getR (pc := 327) dX6_call_327 flX6_13 ok14 rfl rfl ?_
  refine RD.iload_n (pc := 330) dX6_call_330 rfl ?_
  refine RD.iconst (pc := 331) (v := 1) dX6_call_331 (by decide) ?_
  refine RD.iast (pc := 332) (n := 8) s dX6_call_332 (ok15 (by decide)) rfl rfl hs (by decide) ?_
  refine RD.goto (pc := 333) 391 dX6_call_333 (by decide) ?_
  refine RD.ret (pc := 391) ⟨rfl, dX6_call_391⟩ ?_
  exact ⟨rfl, rfl⟩

set_option maxRecDepth 20000 in
set_option maxHeartbeats 1000000 in
theorem m_call8b (K : EK) (d : Nat) {s : Nat} (hs : s < 8) (D : DT) {n e : Nat} (hn : n < 64) (he : e < 8) (hp : D (15, 0, 0) (128 * s + 120) = nI n) (hq : D (15, 0, 0) (128 * s + 121) = nI e) (h : mthr D n = true) (h2 : subM D s (8 + n) = true) : CF K mX6_call (d + 1) [rR (14, 0, 0), rI (nI s), rI 8] D (none) (up (up D (15, 9, 0) (8 * n + e) (D (15, 0, 0) (128 * s + 122))) (15, 1, 0) s 1) := by
  refine CF.of [some (rR (14, 0, 0)), some (rI (nI s)), some (rI 8), none, none, none] (by decide) (leb rfl) rfl ?_
  refine RD.aload_n (pc := 0) dX6_call_0 rfl ?_
  refine RD.getR (pc := 1) dX6_call_1 flX6_9 ok14 rfl rfl ?_
  refine RD.sipush (pc := 4) (v := 128) dX6_call_4 (by decide) ?_
  refine RD.iload_n (pc := 7) dX6_call_7 rfl ?_
  refine RD.imul (pc := 8) dX6_call_8 ?_
  refine RD.eqI (pk_mul 128 s) ?_
  refine RD.bipush (pc := 9) (v := 120) dX6_call_9 (by decide) ?_
  refine RD.iadd (pc := 11) dX6_call_11 ?_
  refine RD.eqI (nI_add (128 * s) 120) ?_
  refine RD.iL (pc := 12) (n := 1024) ((128 * s) + 120) (v := nI n) hp dX6_call_12 (ok15 (by decide)) rfl rfl (by omega) (by decide) ?_
  refine RD.istore_n (pc := 13) (ls' := [some (rR (14, 0, 0)), some (rI (nI s)), some (rI 8), some (rI (nI n)), none, none]) dX6_call_13 (by decide) rfl ?_
  refine RD.aload_n (pc := 14) dX6_call_14 rfl ?_
  refine RD.getR (pc := 15) dX6_call_15 flX6_9 ok14 rfl rfl ?_
  refine RD.sipush (pc := 18) (v := 128) dX6_call_18 (by decide) ?_
  refine RD.iload_n (pc := 21) dX6_call_21 rfl ?_
  refine RD.imul (pc := 22) dX6_call_22 ?_
  refine RD.eqI (pk_mul 128 s) ?_
  refine RD.bipush (pc := 23) (v := 121) dX6_call_23 (by decide) ?_
  refine RD.iadd (pc := 25) dX6_call_25 ?_
  refine RD.eqI (nI_add (128 * s) 121) ?_
  refine RD.iL (pc := 26) (n := 1024) ((128 * s) + 121) (v := nI e) hq dX6_call_26 (ok15 (by decide)) rfl rfl (by omega) (by decide) ?_
  refine RD.istore (pc := 27) (ls' := [some (rR (14, 0, 0)), some (rI (nI s)), some (rI 8), some (rI (nI n)), some (rI (nI e)), none]) dX6_call_27 (by decide) rfl ?_
  refine RD.aload_n (pc := 29) dX6_call_29 rfl ?_
  refine RD.getR (pc := 30) dX6_call_30 flX6_9 ok14 rfl rfl ?_
  refine RD.sipush (pc := 33) (v := 128) dX6_call_33 (by decide) ?_
  refine RD.iload_n (pc := 36) dX6_call_36 rfl ?_
  refine RD.imul (pc := 37) dX6_call_37 ?_
  refine RD.eqI (pk_mul 128 s) ?_
  refine RD.bipush (pc := 38) (v := 122) dX6_call_38 (by decide) ?_
  refine RD.iadd (pc := 40) dX6_call_40 ?_
  refine RD.eqI (nI_add (128 * s) 122) ?_
  refine RD.iL (pc := 41) (n := 1024) ((128 * s) + 122) (v := D (15, 0, 0) ((128 * s) + 122)) rfl dX6_call_41 (ok15 (by decide)) rfl rfl (by omega) (by decide) ?_
  refine RD.istore (pc := 42) (ls' := [some (rR (14, 0, 0)), some (rI (nI s)), some (rI 8), some (rI (nI n)), some (rI (nI e)), some (rI (D (15, 0, 0) ((128 * s) + 122)))]) dX6_call_42 (by decide) rfl ?_
  refine RD.iload_n (pc := 44) dX6_call_44 rfl ?_
  refine RD.tableIn (pc := 45) 270 dX6_call_45 (by decide) (by decide) rfl (by decide) ?_
  refine RD.iload_n (pc := 270) dX6_call_270 rfl ?_
  refine RD.iconst (pc := 271) (v := 0) dX6_call_271 (by decide) ?_
  refine RD.bipush (pc := 272) (v := 63) dX6_call_272 (by decide) ?_
  refine RD.cS3 (pc := 274) dX6_call_274 mlX6_63 (c_mIsIn K _ D (nI n) 63 (by decide)) (leb rfl) ?_
  refine RD.if_eq (pc := 277) 326 dX6_call_277 (by decide) (fun c277 => absurd c277 (bIin (by decide) hn)) (fun c277 => ?_)
  refine RD.aload_n (pc := 280) dX6_call_280 rfl ?_
  refine RD.getR (pc := 281) dX6_call_281 flX6_36 ok14 rfl rfl ?_
  refine RD.iload_n (pc := 284) dX6_call_284 rfl ?_
  refine RD.zL (pc := 285) (n := 64) n (v := D (15, 8, 0) n) rfl dX6_call_285 (ok15 (by decide)) rfl rfl hn (by decide) ?_
  refine RD.if_eq (pc := 286) 326 dX6_call_286 (by decide) (fun c286 => absurd c286 (by simpa [mthr] using h)) (fun c286 => ?_)
  refine RD.iload (pc := 289) dX6_call_289 rfl ?_
  refine RD.iconst (pc := 291) (v := 0) dX6_call_291 (by decide) ?_
  refine RD.bipush (pc := 292) (v := 7) dX6_call_292 (by decide) ?_
  refine RD.cS3 (pc := 294) dX6_call_294 mlX6_63 (c_mIsIn K _ D (nI e) 7 (by decide)) (leb rfl) ?_
  refine RD.if_eq (pc := 297) 326 dX6_call_297 (by decide) (fun c297 => absurd c297 (bIin (by decide) he)) (fun c297 => ?_)
  refine RD.aload_n (pc := 300) dX6_call_300 rfl ?_
  refine RD.iload_n (pc := 301) dX6_call_301 rfl ?_
  refine RD.bipush (pc := 302) (v := 8) dX6_call_302 (by decide) ?_
  refine RD.iload_n (pc := 304) dX6_call_304 rfl ?_
  refine RD.iadd (pc := 305) dX6_call_305 ?_
  refine RD.eqI (nI_add 8 n) ?_
  refine RD.cV2 (pc := 306) dX6_call_306 mlX6_79 rfl ok14 rfl (c_isInLabel K _ (l := s) (m := (8 + n)) (by omega) (by omega) D) (leb rfl) ?_
  refine RD.if_eq (pc := 309) 326 dX6_call_309 (by decide) (fun c309 => absurd c309 (by rw [h2]; decide)) (fun c309 => ?_)
  refine RD.aload_n (pc := 312) dX6_call_312 rfl ?_
  refine RD.getR (pc := 313) dX6_call_313 flX6_39 ok14 rfl rfl ?_
  refine RD.bipush (pc := 316) (v := 8) dX6_call_316 (by decide) ?_
  refine RD.iload_n (pc := 318) dX6_call_318 rfl ?_
  refine RD.imul (pc := 319) dX6_call_319 ?_
  refine RD.eqI (pk_mul 8 n) ?_
  refine RD.iload (pc := 320) dX6_call_320 rfl ?_
  refine RD.iadd (pc := 322) dX6_call_322 ?_
  refine RD.eqI (nI_add (8 * n) e) ?_
  refine RD.iload (pc := 323) dX6_call_323 rfl ?_
  refine RD.iast (pc := 325) (n := 512) ((8 * n) + e) dX6_call_325 (ok15 (by decide)) rfl rfl (by omega) (by decide) ?_
  refine RD.aload_n (pc := 326) dX6_call_326 rfl ?_
  refine RD.getR (pc := 327) dX6_call_327 flX6_13 ok14 rfl rfl ?_
  refine RD.iload_n (pc := 330) dX6_call_330 rfl ?_
  refine RD.iconst (pc := 331) (v := 1) dX6_call_331 (by decide) ?_
  refine RD.iast (pc := 332) (n := 8) s dX6_call_332 (ok15 (by decide)) rfl rfl hs (by decide) ?_
  refine RD.goto (pc := 333) 391 dX6_call_333 (by decide) ?_
  refine RD.ret (pc := 391) ⟨rfl, dX6_call_391⟩ ?_
  exact ⟨rfl, rfl⟩

set_option maxRecDepth 20000 in
set_option maxHeartbeats 1000000 in
theorem m_callX (K : EK) (d : Nat) {s : Nat} (hs : s < 8) (D : DT) (x : Int32) (h : x.toInt < 0 ∨ 11 < x.toInt) : CF K mX6_call (d + 1) [rR (14, 0, 0), rI (nI s), rI x] D (none) (mTrap D s 1) := by
  refine CF.of [some (rR (14, 0, 0)), some (rI (nI s)), some (rI x), none, none, none] (by decide) (leb rfl) rfl ?_
  refine RD.aload_n (pc := 0) dX6_call_0 rfl ?_
  refine RD.getR (pc := 1) dX6_call_1 flX6_9 ok14 rfl rfl ?_
  refine RD.sipush (pc := 4) (v := 128) dX6_call_4 (by decide) ?_
  refine RD.iload_n (pc := 7) dX6_call_7 rfl ?_
  refine RD.imul (pc := 8) dX6_call_8 ?_
  refine RD.eqI (pk_mul 128 s) ?_
  refine RD.bipush (pc := 9) (v := 120) dX6_call_9 (by decide) ?_
  refine RD.iadd (pc := 11) dX6_call_11 ?_
  refine RD.eqI (nI_add (128 * s) 120) ?_
  refine RD.iL (pc := 12) (n := 1024) ((128 * s) + 120) (v := D (15, 0, 0) ((128 * s) + 120)) rfl dX6_call_12 (ok15 (by decide)) rfl rfl (by omega) (by decide) ?_
  refine RD.istore_n (pc := 13) (ls' := [some (rR (14, 0, 0)), some (rI (nI s)), some (rI x), some (rI (D (15, 0, 0) ((128 * s) + 120))), none, none]) dX6_call_13 (by decide) rfl ?_
  refine RD.aload_n (pc := 14) dX6_call_14 rfl ?_
  refine RD.getR (pc := 15) dX6_call_15 flX6_9 ok14 rfl rfl ?_
  refine RD.sipush (pc := 18) (v := 128) dX6_call_18 (by decide) ?_
  refine RD.iload_n (pc := 21) dX6_call_21 rfl ?_
  refine RD.imul (pc := 22) dX6_call_22 ?_
  refine RD.eqI (pk_mul 128 s) ?_
  refine RD.bipush (pc := 23) (v := 121) dX6_call_23 (by decide) ?_
  refine RD.iadd (pc := 25) dX6_call_25 ?_
  refine RD.eqI (nI_add (128 * s) 121) ?_
  refine RD.iL (pc := 26) (n := 1024) ((128 * s) + 121) (v := D (15, 0, 0) ((128 * s) + 121)) rfl dX6_call_26 (ok15 (by decide)) rfl rfl (by omega) (by decide) ?_
  refine RD.istore (pc := 27) (ls' := [some (rR (14, 0, 0)), some (rI (nI s)), some (rI x), some (rI (D (15, 0, 0) ((128 * s) + 120))), some (rI (D (15, 0, 0) ((128 * s) + 121))), none]) dX6_call_27 (by decide) rfl ?_
  refine RD.aload_n (pc := 29) dX6_call_29 rfl ?_
  refine RD.getR (pc := 30) dX6_call_30 flX6_9 ok14 rfl rfl ?_
  refine RD.sipush (pc := 33) (v := 128) dX6_call_33 (by decide) ?_
  refine RD.iload_n (pc := 36) dX6_call_36 rfl ?_
  refine RD.imul (pc := 37) dX6_call_37 ?_
  refine RD.eqI (pk_mul 128 s) ?_
  refine RD.bipush (pc := 38) (v := 122) dX6_call_38 (by decide) ?_
  refine RD.iadd (pc := 40) dX6_call_40 ?_
  refine RD.eqI (nI_add (128 * s) 122) ?_
  refine RD.iL (pc := 41) (n := 1024) ((128 * s) + 122) (v := D (15, 0, 0) ((128 * s) + 122)) rfl dX6_call_41 (ok15 (by decide)) rfl rfl (by omega) (by decide) ?_
  refine RD.istore (pc := 42) (ls' := [some (rR (14, 0, 0)), some (rI (nI s)), some (rI x), some (rI (D (15, 0, 0) ((128 * s) + 120))), some (rI (D (15, 0, 0) ((128 * s) + 121))), some (rI (D (15, 0, 0) ((128 * s) + 122)))]) dX6_call_42 (by decide) rfl ?_
  refine RD.iload_n (pc := 44) dX6_call_44 rfl ?_
  refine RD.tableOut (pc := 45) 385 dX6_call_45 h (by decide) ?_
  refine RD.aload_n (pc := 385) dX6_call_385 rfl ?_
  refine RD.iload_n (pc := 386) dX6_call_386 rfl ?_
  refine RD.iconst (pc := 387) (v := 1) dX6_call_387 (by decide) ?_
  refine RD.cV2v (pc := 388) dX6_call_388 mlX6_90 rfl ok14 rfl (c_traps K _ (s := s) (by omega) D 1) (leb rfl) ?_
  refine RD.ret (pc := 391) ⟨rfl, dX6_call_391⟩ ?_
  exact ⟨rfl, rfl⟩

set_option maxRecDepth 20000 in
set_option maxHeartbeats 1000000 in
theorem m_turn0 (K : EK) (d : Nat) {s : Nat} (hs : s < 8) (D : DT) (h : ¬ D (15, 3, 0) s = 1) : CF K mX6_turn (d + 1) [rR (14, 0, 0), rI (nI s)] D (none) D := by
  refine CF.of [some (rR (14, 0, 0)), some (rI (nI s)), none, none, none] (by decide) (leb rfl) rfl ?_
  refine RD.aload_n (pc := 0) dX6_turn_0 rfl ?_
  refine RD.getR (pc := 1) dX6_turn_1 flX6_19 ok14 rfl rfl ?_
  refine RD.iload_n (pc := 4) dX6_turn_4 rfl ?_
  refine RD.iL (pc := 5) (n := 8) s (v := D (15, 3, 0) s) rfl dX6_turn_5 (ok15 (by decide)) rfl rfl hs (by decide) ?_
  refine RD.iconst (pc := 6) (v := 1) dX6_turn_6 (by decide) ?_
  refine RD.icmp_eq (pc := 7) 11 dX6_turn_7 (by decide) (fun c7 => absurd c7 h) (fun c7 => ?_)
  refine RD.ret (pc := 10) ⟨rfl, dX6_turn_10⟩ ?_
  exact ⟨rfl, rfl⟩

set_option maxRecDepth 20000 in
set_option maxHeartbeats 1000000 in
theorem m_turnN (K : EK) (d : Nat) {s : Nat} (hs : s < 8) (D : DT) (h : D (15, 3, 0) s = 1) (h2 : inR (D (15, 2, 0) s) 128 = false) : CF K mX6_turn (d + 2) [rR (14, 0, 0), rI (nI s)] D (none) (mTrap D s 2) := by
  refine CF.of [some (rR (14, 0, 0)), some (rI (nI s)), none, none, none] (by decide) (leb rfl) rfl ?_
  refine RD.aload_n (pc := 0) dX6_turn_0 rfl ?_
  refine RD.getR (pc := 1) dX6_turn_1 flX6_19 ok14 rfl rfl ?_
  refine RD.iload_n (pc := 4) dX6_turn_4 rfl ?_
  refine RD.iL (pc := 5) (n := 8) s (v := D (15, 3, 0) s) rfl dX6_turn_5 (ok15 (by decide)) rfl rfl hs (by decide) ?_
  refine RD.iconst (pc := 6) (v := 1) dX6_turn_6 (by decide) ?_
  refine RD.icmp_eq (pc := 7) 11 dX6_turn_7 (by decide) (fun c7 => ?_) (fun c7 => absurd h c7)
  refine RD.aload_n (pc := 11) dX6_turn_11 rfl ?_
  refine RD.getR (pc := 12) dX6_turn_12 flX6_16 ok14 rfl rfl ?_
  refine RD.iload_n (pc := 15) dX6_turn_15 rfl ?_
  refine RD.iL (pc := 16) (n := 8) s (v := D (15, 2, 0) s) rfl dX6_turn_16 (ok15 (by decide)) rfl rfl hs (by decide) ?_
  refine RD.cS1 (pc := 17) dX6_turn_17 mlX6_87 (c_mIsCell K _ D (D (15, 2, 0) s)) (leb rfl) ?_
  refine RD.if_ne (pc := 20) 30 dX6_turn_20 (by decide) (fun c20 => absurd (bIout h2) c20) (fun c20 => ?_)
  refine RD.aload_n (pc := 23) dX6_turn_23 rfl ?_
  refine RD.iload_n (pc := 24) dX6_turn_24 rfl ?_
  refine RD.iconst (pc := 25) (v := 2) dX6_turn_25 (by decide) ?_
  refine RD.cV2v (pc := 26) dX6_turn_26 mlX6_90 rfl ok14 rfl (c_traps K _ (s := s) (by omega) D 2) (leb rfl) ?_
  refine RD.ret (pc := 29) ⟨rfl, dX6_turn_29⟩ ?_
  exact ⟨rfl, rfl⟩

set_option maxRecDepth 20000 in
set_option maxHeartbeats 1000000 in
theorem m_turnH (K : EK) (d : Nat) {s : Nat} (hs : s < 8) (D : DT) {q : Nat} {op x : Int32} (h : D (15, 3, 0) s = 1) (hq : q < 128) (hpl : D (15, 2, 0) s = nI q) (hop : ((D (15, 0, 0) (128 * s + q)) - (D (15, 0, 0) (128 * s + q)) / 32 * 32) + 32 - (((D (15, 0, 0) (128 * s + q)) - (D (15, 0, 0) (128 * s + q)) / 32 * 32) + 32) / 32 * 32 = op) (hx : D (15, 0, 0) (128 * s + q) >>> ((5 : Int32) &&& 31) = x) (hL : op = 0) : CF K mX6_turn (d + 2) [rR (14, 0, 0), rI (nI s)] D (none) (up (up D (15, 2, 0) s (nI (q + 1))) (15, 3, 0) s 2) := by
  refine CF.of [some (rR (14, 0, 0)), some (rI (nI s)), none, none, none] (by decide) (leb rfl) rfl ?_
  refine RD.aload_n (pc := 0) dX6_turn_0 rfl ?_
  refine RD.getR (pc := 1) dX6_turn_1 flX6_19 ok14 rfl rfl ?_
  refine RD.iload_n (pc := 4) dX6_turn_4 rfl ?_
  refine RD.iL (pc := 5) (n := 8) s (v := D (15, 3, 0) s) rfl dX6_turn_5 (ok15 (by decide)) rfl rfl hs (by decide) ?_
  refine RD.iconst (pc := 6) (v := 1) dX6_turn_6 (by decide) ?_
  refine RD.icmp_eq (pc := 7) 11 dX6_turn_7 (by decide) (fun c7 => ?_) (fun c7 => absurd h c7)
  refine RD.aload_n (pc := 11) dX6_turn_11 rfl ?_
  refine RD.getR (pc := 12) dX6_turn_12 flX6_16 ok14 rfl rfl ?_
  refine RD.iload_n (pc := 15) dX6_turn_15 rfl ?_
  refine RD.iL (pc := 16) (n := 8) s (v := nI q) hpl dX6_turn_16 (ok15 (by decide)) rfl rfl hs (by decide) ?_
  refine RD.cS1 (pc := 17) dX6_turn_17 mlX6_87 (c_mIsCell K _ D (nI q)) (leb rfl) ?_
  refine RD.if_ne (pc := 20) 30 dX6_turn_20 (by decide) (fun c20 => ?_) (fun c20 => absurd c20 (bIin (by decide) hq))
  refine RD.aload_n (pc := 30) dX6_turn_30 rfl ?_
  refine RD.getR (pc := 31) dX6_turn_31 flX6_9 ok14 rfl rfl ?_
  refine RD.sipush (pc := 34) (v := 128) dX6_turn_34 (by decide) ?_
  refine RD.iload_n (pc := 37) dX6_turn_37 rfl ?_
  refine RD.imul (pc := 38) dX6_turn_38 ?_
  refine RD.eqI (pk_mul 128 s) ?_
  refine RD.aload_n (pc := 39) dX6_turn_39 rfl ?_
  refine RD.getR (pc := 40) dX6_turn_40 flX6_16 ok14 rfl rfl ?_
  refine RD.iload_n (pc := 43) dX6_turn_43 rfl ?_
  refine RD.iL (pc := 44) (n := 8) s (v := nI q) hpl dX6_turn_44 (ok15 (by decide)) rfl rfl hs (by decide) ?_
  refine RD.iadd (pc := 45) dX6_turn_45 ?_
  refine RD.eqI (nI_add (128 * s) q) ?_
  refine RD.iL (pc := 46) (n := 1024) ((128 * s) + q) (v := D (15, 0, 0) ((128 * s) + q)) rfl dX6_turn_46 (ok15 (by decide)) rfl rfl (by omega) (by decide) ?_
  refine RD.istore_n (pc := 47) (ls' := [some (rR (14, 0, 0)), some (rI (nI s)), some (rI (D (15, 0, 0) ((128 * s) + q))), none, none]) dX6_turn_47 (by decide) rfl ?_
  refine RD.iload_n (pc := 48) dX6_turn_48 rfl ?_
  refine RD.bipush (pc := 49) (v := 32) dX6_turn_49 (by decide) ?_
  refine RD.irem (pc := 51) dX6_turn_51 (by decide) ?_
  refine RD.bipush (pc := 52) (v := 32) dX6_turn_52 (by decide) ?_
  refine RD.iadd (pc := 54) dX6_turn_54 ?_
  refine RD.bipush (pc := 55) (v := 32) dX6_turn_55 (by decide) ?_
  refine RD.irem (pc := 57) dX6_turn_57 (by decide) ?_
  refine RD.eqI hop ?_
  refine RD.eqI hL ?_
  refine RD.istore_n (pc := 58) (ls' := [some (rR (14, 0, 0)), some (rI (nI s)), some (rI (D (15, 0, 0) ((128 * s) + q))), some (rI 0), none]) dX6_turn_58 (by decide) rfl ?_
  refine RD.iload_n (pc := 59) dX6_turn_59 rfl ?_
  refine RD.iconst (pc := 60) (v := 5) dX6_turn_60 (by decide) ?_
  refine RD.ishr (pc := 61) dX6_turn_61 ?_
  refine RD.eqI hx ?_
  refine RD.istore (pc := 62) (ls' := [some (rR (14, 0, 0)), some (rI (nI s)), some (rI (D (15, 0, 0) ((128 * s) + q))), some (rI 0), some (rI x)]) dX6_turn_62 (by decide) rfl ?_
  refine RD.aload_n (pc := 64) dX6_turn_64 rfl ?_
  refine RD.getR (pc := 65) dX6_turn_65 flX6_16 ok14 rfl rfl ?_
  refine RD.iload_n (pc := 68) dX6_turn_68 rfl ?_
  refine RD.dup2 (pc := 69) dX6_turn_69 ?_
  refine RD.iL (pc := 70) (n := 8) s (v := nI q) hpl dX6_turn_70 (ok15 (by decide)) rfl rfl hs (by decide) ?_
  refine RD.iconst (pc := 71) (v := 1) dX6_turn_71 (by decide) ?_
  refine RD.iadd (pc := 72) dX6_turn_72 ?_
  refine RD.eqI (nI_add q 1) ?_
  refine RD.iast (pc := 73) (n := 8) s dX6_turn_73 (ok15 (by decide)) rfl rfl hs (by decide) ?_
  refine RD.iload_n (pc := 74) dX6_turn_74 rfl ?_
  refine RD.if_ne (pc := 75) 88 dX6_turn_75 (by decide) (fun c75 => absurd rfl c75) (fun c75 => ?_)
  refine RD.aload_n (pc := 78) dX6_turn_78 rfl ?_
  refine RD.getR (pc := 79) dX6_turn_79 flX6_19 ok14 rfl rfl ?_
  refine RD.iload_n (pc := 82) dX6_turn_82 rfl ?_
  refine RD.iconst (pc := 83) (v := 2) dX6_turn_83 (by decide) ?_
  refine RD.iast (pc := 84) (n := 8) s dX6_turn_84 (ok15 (by decide)) rfl rfl hs (by decide) ?_
  refine RD.goto (pc := 85) 225 dX6_turn_85 (by decide) ?_
  refine RD.ret (pc := 225) ⟨rfl, dX6_turn_225⟩ ?_
  exact ⟨rfl, rfl⟩

set_option maxRecDepth 20000 in
set_option maxHeartbeats 1000000 in
theorem m_turnA (K : EK) (d : Nat) {s : Nat} (hs : s < 8) (D : DT) {q : Nat} {op x : Int32} (h : D (15, 3, 0) s = 1) (hq : q < 128) (hpl : D (15, 2, 0) s = nI q) (hop : ((D (15, 0, 0) (128 * s + q)) - (D (15, 0, 0) (128 * s + q)) / 32 * 32) + 32 - (((D (15, 0, 0) (128 * s + q)) - (D (15, 0, 0) (128 * s + q)) / 32 * 32) + 32) / 32 * 32 = op) (hx : D (15, 0, 0) (128 * s + q) >>> ((5 : Int32) &&& 31) = x) (hL : op = 3) : CF K mX6_turn (d + 2) [rR (14, 0, 0), rI (nI s)] D (none) (up (up D (15, 2, 0) s (nI (q + 1))) (15, 1, 0) s x) := by
  refine CF.of [some (rR (14, 0, 0)), some (rI (nI s)), none, none, none] (by decide) (leb rfl) rfl ?_
  refine RD.aload_n (pc := 0) dX6_turn_0 rfl ?_
  refine RD.getR (pc := 1) dX6_turn_1 flX6_19 ok14 rfl rfl ?_
  refine RD.iload_n (pc := 4) dX6_turn_4 rfl ?_
  refine RD.iL (pc := 5) (n := 8) s (v := D (15, 3, 0) s) rfl dX6_turn_5 (ok15 (by decide)) rfl rfl hs (by decide) ?_
  refine RD.iconst (pc := 6) (v := 1) dX6_turn_6 (by decide) ?_
  refine RD.icmp_eq (pc := 7) 11 dX6_turn_7 (by decide) (fun c7 => ?_) (fun c7 => absurd h c7)
  refine RD.aload_n (pc := 11) dX6_turn_11 rfl ?_
  refine RD.getR (pc := 12) dX6_turn_12 flX6_16 ok14 rfl rfl ?_
  refine RD.iload_n (pc := 15) dX6_turn_15 rfl ?_
  refine RD.iL (pc := 16) (n := 8) s (v := nI q) hpl dX6_turn_16 (ok15 (by decide)) rfl rfl hs (by decide) ?_
  refine RD.cS1 (pc := 17) dX6_turn_17 mlX6_87 (c_mIsCell K _ D (nI q)) (leb rfl) ?_
  refine RD.if_ne (pc := 20) 30 dX6_turn_20 (by decide) (fun c20 => ?_) (fun c20 => absurd c20 (bIin (by decide) hq))
  refine RD.aload_n (pc := 30) dX6_turn_30 rfl ?_
  refine RD.getR (pc := 31) dX6_turn_31 flX6_9 ok14 rfl rfl ?_
  refine RD.sipush (pc := 34) (v := 128) dX6_turn_34 (by decide) ?_
  refine RD.iload_n (pc := 37) dX6_turn_37 rfl ?_
  refine RD.imul (pc := 38) dX6_turn_38 ?_
  refine RD.eqI (pk_mul 128 s) ?_
  refine RD.aload_n (pc := 39) dX6_turn_39 rfl ?_
  refine RD.getR (pc := 40) dX6_turn_40 flX6_16 ok14 rfl rfl ?_
  refine RD.iload_n (pc := 43) dX6_turn_43 rfl ?_
  refine RD.iL (pc := 44) (n := 8) s (v := nI q) hpl dX6_turn_44 (ok15 (by decide)) rfl rfl hs (by decide) ?_
  refine RD.iadd (pc := 45) dX6_turn_45 ?_
  refine RD.eqI (nI_add (128 * s) q) ?_
  refine RD.iL (pc := 46) (n := 1024) ((128 * s) + q) (v := D (15, 0, 0) ((128 * s) + q)) rfl dX6_turn_46 (ok15 (by decide)) rfl rfl (by omega) (by decide) ?_
  refine RD.istore_n (pc := 47) (ls' := [some (rR (14, 0, 0)), some (rI (nI s)), some (rI (D (15, 0, 0) ((128 * s) + q))), none, none]) dX6_turn_47 (by decide) rfl ?_
  refine RD.iload_n (pc := 48) dX6_turn_48 rfl ?_
  refine RD.bipush (pc := 49) (v := 32) dX6_turn_49 (by decide) ?_
  refine RD.irem (pc := 51) dX6_turn_51 (by decide) ?_
  refine RD.bipush (pc := 52) (v := 32) dX6_turn_52 (by decide) ?_
  refine RD.iadd (pc := 54) dX6_turn_54 ?_
  refine RD.bipush (pc := 55) (v := 32) dX6_turn_55 (by decide) ?_
  refine RD.irem (pc := 57) dX6_turn_57 (by decide) ?_
  refine RD.eqI hop ?_
  refine RD.eqI hL ?_
  refine RD.istore_n (pc := 58) (ls' := [some (rR (14, 0, 0)), some (rI (nI s)), some (rI (D (15, 0, 0) ((128 * s) + q))), some (rI 3), none]) dX6_turn_58 (by decide) rfl ?_
  refine RD.iload_n (pc := 59) dX6_turn_59 rfl ?_
  refine RD.iconst (pc := 60) (v := 5) dX6_turn_60 (by decide) ?_
  refine RD.ishr (pc := 61) dX6_turn_61 ?_
  refine RD.eqI hx ?_
  refine RD.istore (pc := 62) (ls' := [some (rR (14, 0, 0)), some (rI (nI s)), some (rI (D (15, 0, 0) ((128 * s) + q))), some (rI 3), some (rI x)]) dX6_turn_62 (by decide) rfl ?_
  refine RD.aload_n (pc := 64) dX6_turn_64 rfl ?_
  refine RD.getR (pc := 65) dX6_turn_65 flX6_16 ok14 rfl rfl ?_
  refine RD.iload_n (pc := 68) dX6_turn_68 rfl ?_
  refine RD.dup2 (pc := 69) dX6_turn_69 ?_
  refine RD.iL (pc := 70) (n := 8) s (v := nI q) hpl dX6_turn_70 (ok15 (by decide)) rfl rfl hs (by decide) ?_
  refine RD.iconst (pc := 71) (v := 1) dX6_turn_71 (by decide) ?_
  refine RD.iadd (pc := 72) dX6_turn_72 ?_
  refine RD.eqI (nI_add q 1) ?_
  refine RD.iast (pc := 73) (n := 8) s dX6_turn_73 (ok15 (by decide)) rfl rfl hs (by decide) ?_
  refine RD.iload_n (pc := 74) dX6_turn_74 rfl ?_
  refine RD.if_ne (pc := 75) 88 dX6_turn_75 (by decide) (fun c75 => ?_) (fun c75 => absurd c75 (by decide))
  refine RD.iload_n (pc := 88) dX6_turn_88 rfl ?_
  refine RD.iconst (pc := 89) (v := 3) dX6_turn_89 (by decide) ?_
  refine RD.icmp_ne (pc := 90) 104 dX6_turn_90 (by decide) (fun c90 => absurd (by decide) c90) (fun c90 => ?_)
  refine RD.aload_n (pc := 93) dX6_turn_93 rfl ?_
  refine RD.getR (pc := 94) dX6_turn_94 flX6_13 ok14 rfl rfl ?_
  refine RD.iload_n (pc := 97) dX6_turn_97 rfl ?_
  refine RD.iload (pc := 98) dX6_turn_98 rfl ?_
  refine RD.iast (pc := 100) (n := 8) s dX6_turn_100 (ok15 (by decide)) rfl rfl hs (by decide) ?_
  refine RD.goto (pc := 101) 225 dX6_turn_101 (by decide) ?_
  refine RD.ret (pc := 225) ⟨rfl, dX6_turn_225⟩ ?_
  exact ⟨rfl, rfl⟩

set_option maxRecDepth 20000 in
set_option maxHeartbeats 1000000 in
theorem m_turnJ (K : EK) (d : Nat) {s : Nat} (hs : s < 8) (D : DT) {q : Nat} {op x : Int32} (h : D (15, 3, 0) s = 1) (hq : q < 128) (hpl : D (15, 2, 0) s = nI q) (hop : ((D (15, 0, 0) (128 * s + q)) - (D (15, 0, 0) (128 * s + q)) / 32 * 32) + 32 - (((D (15, 0, 0) (128 * s + q)) - (D (15, 0, 0) (128 * s + q)) / 32 * 32) + 32) / 32 * 32 = op) (hx : D (15, 0, 0) (128 * s + q) >>> ((5 : Int32) &&& 31) = x) (hL : op = 13) : CF K mX6_turn (d + 2) [rR (14, 0, 0), rI (nI s)] D (none) (up (up D (15, 2, 0) s (nI (q + 1))) (15, 2, 0) s x) := by
  refine CF.of [some (rR (14, 0, 0)), some (rI (nI s)), none, none, none] (by decide) (leb rfl) rfl ?_
  refine RD.aload_n (pc := 0) dX6_turn_0 rfl ?_
  refine RD.getR (pc := 1) dX6_turn_1 flX6_19 ok14 rfl rfl ?_
  refine RD.iload_n (pc := 4) dX6_turn_4 rfl ?_
  refine RD.iL (pc := 5) (n := 8) s (v := D (15, 3, 0) s) rfl dX6_turn_5 (ok15 (by decide)) rfl rfl hs (by decide) ?_
  refine RD.iconst (pc := 6) (v := 1) dX6_turn_6 (by decide) ?_
  refine RD.icmp_eq (pc := 7) 11 dX6_turn_7 (by decide) (fun c7 => ?_) (fun c7 => absurd h c7)
  refine RD.aload_n (pc := 11) dX6_turn_11 rfl ?_
  refine RD.getR (pc := 12) dX6_turn_12 flX6_16 ok14 rfl rfl ?_
  refine RD.iload_n (pc := 15) dX6_turn_15 rfl ?_
  refine RD.iL (pc := 16) (n := 8) s (v := nI q) hpl dX6_turn_16 (ok15 (by decide)) rfl rfl hs (by decide) ?_
  refine RD.cS1 (pc := 17) dX6_turn_17 mlX6_87 (c_mIsCell K _ D (nI q)) (leb rfl) ?_
  refine RD.if_ne (pc := 20) 30 dX6_turn_20 (by decide) (fun c20 => ?_) (fun c20 => absurd c20 (bIin (by decide) hq))
  refine RD.aload_n (pc := 30) dX6_turn_30 rfl ?_
  refine RD.getR (pc := 31) dX6_turn_31 flX6_9 ok14 rfl rfl ?_
  refine RD.sipush (pc := 34) (v := 128) dX6_turn_34 (by decide) ?_
  refine RD.iload_n (pc := 37) dX6_turn_37 rfl ?_
  refine RD.imul (pc := 38) dX6_turn_38 ?_
  refine RD.eqI (pk_mul 128 s) ?_
  refine RD.aload_n (pc := 39) dX6_turn_39 rfl ?_
  refine RD.getR (pc := 40) dX6_turn_40 flX6_16 ok14 rfl rfl ?_
  refine RD.iload_n (pc := 43) dX6_turn_43 rfl ?_
  refine RD.iL (pc := 44) (n := 8) s (v := nI q) hpl dX6_turn_44 (ok15 (by decide)) rfl rfl hs (by decide) ?_
  refine RD.iadd (pc := 45) dX6_turn_45 ?_
  refine RD.eqI (nI_add (128 * s) q) ?_
  refine RD.iL (pc := 46) (n := 1024) ((128 * s) + q) (v := D (15, 0, 0) ((128 * s) + q)) rfl dX6_turn_46 (ok15 (by decide)) rfl rfl (by omega) (by decide) ?_
  refine RD.istore_n (pc := 47) (ls' := [some (rR (14, 0, 0)), some (rI (nI s)), some (rI (D (15, 0, 0) ((128 * s) + q))), none, none]) dX6_turn_47 (by decide) rfl ?_
  refine RD.iload_n (pc := 48) dX6_turn_48 rfl ?_
  refine RD.bipush (pc := 49) (v := 32) dX6_turn_49 (by decide) ?_
  refine RD.irem (pc := 51) dX6_turn_51 (by decide) ?_
  refine RD.bipush (pc := 52) (v := 32) dX6_turn_52 (by decide) ?_
  refine RD.iadd (pc := 54) dX6_turn_54 ?_
  refine RD.bipush (pc := 55) (v := 32) dX6_turn_55 (by decide) ?_
  refine RD.irem (pc := 57) dX6_turn_57 (by decide) ?_
  refine RD.eqI hop ?_
  refine RD.eqI hL ?_
  refine RD.istore_n (pc := 58) (ls' := [some (rR (14, 0, 0)), some (rI (nI s)), some (rI (D (15, 0, 0) ((128 * s) + q))), some (rI 13), none]) dX6_turn_58 (by decide) rfl ?_
  refine RD.iload_n (pc := 59) dX6_turn_59 rfl ?_
  refine RD.iconst (pc := 60) (v := 5) dX6_turn_60 (by decide) ?_
  refine RD.ishr (pc := 61) dX6_turn_61 ?_
  refine RD.eqI hx ?_
  refine RD.istore (pc := 62) (ls' := [some (rR (14, 0, 0)), some (rI (nI s)), some (rI (D (15, 0, 0) ((128 * s) + q))), some (rI 13), some (rI x)]) dX6_turn_62 (by decide) rfl ?_
  refine RD.aload_n (pc := 64) dX6_turn_64 rfl ?_
  refine RD.getR (pc := 65) dX6_turn_65 flX6_16 ok14 rfl rfl ?_
  refine RD.iload_n (pc := 68) dX6_turn_68 rfl ?_
  refine RD.dup2 (pc := 69) dX6_turn_69 ?_
  refine RD.iL (pc := 70) (n := 8) s (v := nI q) hpl dX6_turn_70 (ok15 (by decide)) rfl rfl hs (by decide) ?_
  refine RD.iconst (pc := 71) (v := 1) dX6_turn_71 (by decide) ?_
  refine RD.iadd (pc := 72) dX6_turn_72 ?_
  refine RD.eqI (nI_add q 1) ?_
  refine RD.iast (pc := 73) (n := 8) s dX6_turn_73 (ok15 (by decide)) rfl rfl hs (by decide) ?_
  refine RD.iload_n (pc := 74) dX6_turn_74 rfl ?_
  refine RD.if_ne (pc := 75) 88 dX6_turn_75 (by decide) (fun c75 => ?_) (fun c75 => absurd c75 (by decide))
  refine RD.iload_n (pc := 88) dX6_turn_88 rfl ?_
  refine RD.iconst (pc := 89) (v := 3) dX6_turn_89 (by decide) ?_
  refine RD.icmp_ne (pc := 90) 104 dX6_turn_90 (by decide) (fun c90 => ?_) (fun c90 => absurd c90 (by decide))
  refine RD.iload_n (pc := 104) dX6_turn_104 rfl ?_
  refine RD.bipush (pc := 105) (v := 13) dX6_turn_105 (by decide) ?_
  refine RD.icmp_lt (pc := 107) 163 dX6_turn_107 (by decide) (fun c107 => absurd c107 (by decide)) (fun c107 => ?_)
  refine RD.iload_n (pc := 110) dX6_turn_110 rfl ?_
  refine RD.bipush (pc := 111) (v := 15) dX6_turn_111 (by decide) ?_
  refine RD.icmp_gt (pc := 113) 163 dX6_turn_113 (by decide) (fun c113 => absurd c113 (by decide)) (fun c113 => ?_)
  refine RD.iload_n (pc := 116) dX6_turn_116 rfl ?_
  refine RD.bipush (pc := 117) (v := 13) dX6_turn_117 (by decide) ?_
  refine RD.icmp_eq (pc := 119) 152 dX6_turn_119 (by decide) (fun c119 => ?_) (fun c119 => absurd (by decide) c119)
  refine RD.aload_n (pc := 152) dX6_turn_152 rfl ?_
  refine RD.getR (pc := 153) dX6_turn_153 flX6_16 ok14 rfl rfl ?_
  refine RD.iload_n (pc := 156) dX6_turn_156 rfl ?_
  refine RD.iload (pc := 157) dX6_turn_157 rfl ?_
  refine RD.iast (pc := 159) (n := 8) s dX6_turn_159 (ok15 (by decide)) rfl rfl hs (by decide) ?_
  refine RD.goto (pc := 160) 225 dX6_turn_160 (by decide) ?_
  refine RD.ret (pc := 225) ⟨rfl, dX6_turn_225⟩ ?_
  exact ⟨rfl, rfl⟩

set_option maxRecDepth 20000 in
set_option maxHeartbeats 1000000 in
theorem m_turnZ1 (K : EK) (d : Nat) {s : Nat} (hs : s < 8) (D : DT) {q : Nat} {op x : Int32} (h : D (15, 3, 0) s = 1) (hq : q < 128) (hpl : D (15, 2, 0) s = nI q) (hop : ((D (15, 0, 0) (128 * s + q)) - (D (15, 0, 0) (128 * s + q)) / 32 * 32) + 32 - (((D (15, 0, 0) (128 * s + q)) - (D (15, 0, 0) (128 * s + q)) / 32 * 32) + 32) / 32 * 32 = op) (hx : D (15, 0, 0) (128 * s + q) >>> ((5 : Int32) &&& 31) = x) (hL : op = 14) (hA : D (15, 1, 0) s = 0) : CF K mX6_turn (d + 2) [rR (14, 0, 0), rI (nI s)] D (none) (up (up D (15, 2, 0) s (nI (q + 1))) (15, 2, 0) s x) := by
  refine CF.of [some (rR (14, 0, 0)), some (rI (nI s)), none, none, none] (by decide) (leb rfl) rfl ?_
  refine RD.aload_n (pc := 0) dX6_turn_0 rfl ?_
  refine RD.getR (pc := 1) dX6_turn_1 flX6_19 ok14 rfl rfl ?_
  refine RD.iload_n (pc := 4) dX6_turn_4 rfl ?_
  refine RD.iL (pc := 5) (n := 8) s (v := D (15, 3, 0) s) rfl dX6_turn_5 (ok15 (by decide)) rfl rfl hs (by decide) ?_
  refine RD.iconst (pc := 6) (v := 1) dX6_turn_6 (by decide) ?_
  refine RD.icmp_eq (pc := 7) 11 dX6_turn_7 (by decide) (fun c7 => ?_) (fun c7 => absurd h c7)
  refine RD.aload_n (pc := 11) dX6_turn_11 rfl ?_
  refine RD.getR (pc := 12) dX6_turn_12 flX6_16 ok14 rfl rfl ?_
  refine RD.iload_n (pc := 15) dX6_turn_15 rfl ?_
  refine RD.iL (pc := 16) (n := 8) s (v := nI q) hpl dX6_turn_16 (ok15 (by decide)) rfl rfl hs (by decide) ?_
  refine RD.cS1 (pc := 17) dX6_turn_17 mlX6_87 (c_mIsCell K _ D (nI q)) (leb rfl) ?_
  refine RD.if_ne (pc := 20) 30 dX6_turn_20 (by decide) (fun c20 => ?_) (fun c20 => absurd c20 (bIin (by decide) hq))
  refine RD.aload_n (pc := 30) dX6_turn_30 rfl ?_
  refine RD.getR (pc := 31) dX6_turn_31 flX6_9 ok14 rfl rfl ?_
  refine RD.sipush (pc := 34) (v := 128) dX6_turn_34 (by decide) ?_
  refine RD.iload_n (pc := 37) dX6_turn_37 rfl ?_
  refine RD.imul (pc := 38) dX6_turn_38 ?_
  refine RD.eqI (pk_mul 128 s) ?_
  refine RD.aload_n (pc := 39) dX6_turn_39 rfl ?_
  refine RD.getR (pc := 40) dX6_turn_40 flX6_16 ok14 rfl rfl ?_
  refine RD.iload_n (pc := 43) dX6_turn_43 rfl ?_
  refine RD.iL (pc := 44) (n := 8) s (v := nI q) hpl dX6_turn_44 (ok15 (by decide)) rfl rfl hs (by decide) ?_
  refine RD.iadd (pc := 45) dX6_turn_45 ?_
  refine RD.eqI (nI_add (128 * s) q) ?_
  refine RD.iL (pc := 46) (n := 1024) ((128 * s) + q) (v := D (15, 0, 0) ((128 * s) + q)) rfl dX6_turn_46 (ok15 (by decide)) rfl rfl (by omega) (by decide) ?_
  refine RD.istore_n (pc := 47) (ls' := [some (rR (14, 0, 0)), some (rI (nI s)), some (rI (D (15, 0, 0) ((128 * s) + q))), none, none]) dX6_turn_47 (by decide) rfl ?_
  refine RD.iload_n (pc := 48) dX6_turn_48 rfl ?_
  refine RD.bipush (pc := 49) (v := 32) dX6_turn_49 (by decide) ?_
  refine RD.irem (pc := 51) dX6_turn_51 (by decide) ?_
  refine RD.bipush (pc := 52) (v := 32) dX6_turn_52 (by decide) ?_
  refine RD.iadd (pc := 54) dX6_turn_54 ?_
  refine RD.bipush (pc := 55) (v := 32) dX6_turn_55 (by decide) ?_
  refine RD.irem (pc := 57) dX6_turn_57 (by decide) ?_
  refine RD.eqI hop ?_
  refine RD.eqI hL ?_
  refine RD.istore_n (pc := 58) (ls' := [some (rR (14, 0, 0)), some (rI (nI s)), some (rI (D (15, 0, 0) ((128 * s) + q))), some (rI 14), none]) dX6_turn_58 (by decide) rfl ?_
  refine RD.iload_n (pc := 59) dX6_turn_59 rfl ?_
  refine RD.iconst (pc := 60) (v := 5) dX6_turn_60 (by decide) ?_
  refine RD.ishr (pc := 61) dX6_turn_61 ?_
  refine RD.eqI hx ?_
  refine RD.istore (pc := 62) (ls' := [some (rR (14, 0, 0)), some (rI (nI s)), some (rI (D (15, 0, 0) ((128 * s) + q))), some (rI 14), some (rI x)]) dX6_turn_62 (by decide) rfl ?_
  refine RD.aload_n (pc := 64) dX6_turn_64 rfl ?_
  refine RD.getR (pc := 65) dX6_turn_65 flX6_16 ok14 rfl rfl ?_
  refine RD.iload_n (pc := 68) dX6_turn_68 rfl ?_
  refine RD.dup2 (pc := 69) dX6_turn_69 ?_
  refine RD.iL (pc := 70) (n := 8) s (v := nI q) hpl dX6_turn_70 (ok15 (by decide)) rfl rfl hs (by decide) ?_
  refine RD.iconst (pc := 71) (v := 1) dX6_turn_71 (by decide) ?_
  refine RD.iadd (pc := 72) dX6_turn_72 ?_
  refine RD.eqI (nI_add q 1) ?_
  refine RD.iast (pc := 73) (n := 8) s dX6_turn_73 (ok15 (by decide)) rfl rfl hs (by decide) ?_
  refine RD.iload_n (pc := 74) dX6_turn_74 rfl ?_
  refine RD.if_ne (pc := 75) 88 dX6_turn_75 (by decide) (fun c75 => ?_) (fun c75 => absurd c75 (by decide))
  refine RD.iload_n (pc := 88) dX6_turn_88 rfl ?_
  refine RD.iconst (pc := 89) (v := 3) dX6_turn_89 (by decide) ?_
  refine RD.icmp_ne (pc := 90) 104 dX6_turn_90 (by decide) (fun c90 => ?_) (fun c90 => absurd c90 (by decide))
  refine RD.iload_n (pc := 104) dX6_turn_104 rfl ?_
  refine RD.bipush (pc := 105) (v := 13) dX6_turn_105 (by decide) ?_
  refine RD.icmp_lt (pc := 107) 163 dX6_turn_107 (by decide) (fun c107 => absurd c107 (by decide)) (fun c107 => ?_)
  refine RD.iload_n (pc := 110) dX6_turn_110 rfl ?_
  refine RD.bipush (pc := 111) (v := 15) dX6_turn_111 (by decide) ?_
  refine RD.icmp_gt (pc := 113) 163 dX6_turn_113 (by decide) (fun c113 => absurd c113 (by decide)) (fun c113 => ?_)
  refine RD.iload_n (pc := 116) dX6_turn_116 rfl ?_
  refine RD.bipush (pc := 117) (v := 13) dX6_turn_117 (by decide) ?_
  refine RD.icmp_eq (pc := 119) 152 dX6_turn_119 (by decide) (fun c119 => absurd c119 (by decide)) (fun c119 => ?_)
  refine RD.iload_n (pc := 122) dX6_turn_122 rfl ?_
  refine RD.bipush (pc := 123) (v := 14) dX6_turn_123 (by decide) ?_
  refine RD.icmp_ne (pc := 125) 137 dX6_turn_125 (by decide) (fun c125 => absurd (by decide) c125) (fun c125 => ?_)
  refine RD.aload_n (pc := 128) dX6_turn_128 rfl ?_
  refine RD.getR (pc := 129) dX6_turn_129 flX6_13 ok14 rfl rfl ?_
  refine RD.iload_n (pc := 132) dX6_turn_132 rfl ?_
  refine RD.iL (pc := 133) (n := 8) s (v := D (15, 1, 0) s) (up_N (by simp) rfl) dX6_turn_133 (ok15 (by decide)) rfl rfl hs (by decide) ?_
  refine RD.if_eq (pc := 134) 152 dX6_turn_134 (by decide) (fun c134 => ?_) (fun c134 => absurd hA c134)
  refine RD.aload_n (pc := 152) dX6_turn_152 rfl ?_
  refine RD.getR (pc := 153) dX6_turn_153 flX6_16 ok14 rfl rfl ?_
  refine RD.iload_n (pc := 156) dX6_turn_156 rfl ?_
  refine RD.iload (pc := 157) dX6_turn_157 rfl ?_
  refine RD.iast (pc := 159) (n := 8) s dX6_turn_159 (ok15 (by decide)) rfl rfl hs (by decide) ?_
  refine RD.goto (pc := 160) 225 dX6_turn_160 (by decide) ?_
  refine RD.ret (pc := 225) ⟨rfl, dX6_turn_225⟩ ?_
  exact ⟨rfl, rfl⟩

set_option maxRecDepth 20000 in
set_option maxHeartbeats 1000000 in
theorem m_turnZ0 (K : EK) (d : Nat) {s : Nat} (hs : s < 8) (D : DT) {q : Nat} {op x : Int32} (h : D (15, 3, 0) s = 1) (hq : q < 128) (hpl : D (15, 2, 0) s = nI q) (hop : ((D (15, 0, 0) (128 * s + q)) - (D (15, 0, 0) (128 * s + q)) / 32 * 32) + 32 - (((D (15, 0, 0) (128 * s + q)) - (D (15, 0, 0) (128 * s + q)) / 32 * 32) + 32) / 32 * 32 = op) (hx : D (15, 0, 0) (128 * s + q) >>> ((5 : Int32) &&& 31) = x) (hL : op = 14) (hA : ¬ D (15, 1, 0) s = 0) : CF K mX6_turn (d + 2) [rR (14, 0, 0), rI (nI s)] D (none) (up D (15, 2, 0) s (nI (q + 1))) := by
  refine CF.of [some (rR (14, 0, 0)), some (rI (nI s)), none, none, none] (by decide) (leb rfl) rfl ?_
  refine RD.aload_n (pc := 0) dX6_turn_0 rfl ?_
  refine RD.getR (pc := 1) dX6_turn_1 flX6_19 ok14 rfl rfl ?_
  refine RD.iload_n (pc := 4) dX6_turn_4 rfl ?_
  refine RD.iL (pc := 5) (n := 8) s (v := D (15, 3, 0) s) rfl dX6_turn_5 (ok15 (by decide)) rfl rfl hs (by decide) ?_
  refine RD.iconst (pc := 6) (v := 1) dX6_turn_6 (by decide) ?_
  refine RD.icmp_eq (pc := 7) 11 dX6_turn_7 (by decide) (fun c7 => ?_) (fun c7 => absurd h c7)
  refine RD.aload_n (pc := 11) dX6_turn_11 rfl ?_
  refine RD.getR (pc := 12) dX6_turn_12 flX6_16 ok14 rfl rfl ?_
  refine RD.iload_n (pc := 15) dX6_turn_15 rfl ?_
  refine RD.iL (pc := 16) (n := 8) s (v := nI q) hpl dX6_turn_16 (ok15 (by decide)) rfl rfl hs (by decide) ?_
  refine RD.cS1 (pc := 17) dX6_turn_17 mlX6_87 (c_mIsCell K _ D (nI q)) (leb rfl) ?_
  refine RD.if_ne (pc := 20) 30 dX6_turn_20 (by decide) (fun c20 => ?_) (fun c20 => absurd c20 (bIin (by decide) hq))
  refine RD.aload_n (pc := 30) dX6_turn_30 rfl ?_
  refine RD.getR (pc := 31) dX6_turn_31 flX6_9 ok14 rfl rfl ?_
  refine RD.sipush (pc := 34) (v := 128) dX6_turn_34 (by decide) ?_
  refine RD.iload_n (pc := 37) dX6_turn_37 rfl ?_
  refine RD.imul (pc := 38) dX6_turn_38 ?_
  refine RD.eqI (pk_mul 128 s) ?_
  refine RD.aload_n (pc := 39) dX6_turn_39 rfl ?_
  refine RD.getR (pc := 40) dX6_turn_40 flX6_16 ok14 rfl rfl ?_
  refine RD.iload_n (pc := 43) dX6_turn_43 rfl ?_
  refine RD.iL (pc := 44) (n := 8) s (v := nI q) hpl dX6_turn_44 (ok15 (by decide)) rfl rfl hs (by decide) ?_
  refine RD.iadd (pc := 45) dX6_turn_45 ?_
  refine RD.eqI (nI_add (128 * s) q) ?_
  refine RD.iL (pc := 46) (n := 1024) ((128 * s) + q) (v := D (15, 0, 0) ((128 * s) + q)) rfl dX6_turn_46 (ok15 (by decide)) rfl rfl (by omega) (by decide) ?_
  refine RD.istore_n (pc := 47) (ls' := [some (rR (14, 0, 0)), some (rI (nI s)), some (rI (D (15, 0, 0) ((128 * s) + q))), none, none]) dX6_turn_47 (by decide) rfl ?_
  refine RD.iload_n (pc := 48) dX6_turn_48 rfl ?_
  refine RD.bipush (pc := 49) (v := 32) dX6_turn_49 (by decide) ?_
  refine RD.irem (pc := 51) dX6_turn_51 (by decide) ?_
  refine RD.bipush (pc := 52) (v := 32) dX6_turn_52 (by decide) ?_
  refine RD.iadd (pc := 54) dX6_turn_54 ?_
  refine RD.bipush (pc := 55) (v := 32) dX6_turn_55 (by decide) ?_
  refine RD.irem (pc := 57) dX6_turn_57 (by decide) ?_
  refine RD.eqI hop ?_
  refine RD.eqI hL ?_
  refine RD.istore_n (pc := 58) (ls' := [some (rR (14, 0, 0)), some (rI (nI s)), some (rI (D (15, 0, 0) ((128 * s) + q))), some (rI 14), none]) dX6_turn_58 (by decide) rfl ?_
  refine RD.iload_n (pc := 59) dX6_turn_59 rfl ?_
  refine RD.iconst (pc := 60) (v := 5) dX6_turn_60 (by decide) ?_
  refine RD.ishr (pc := 61) dX6_turn_61 ?_
  refine RD.eqI hx ?_
  refine RD.istore (pc := 62) (ls' := [some (rR (14, 0, 0)), some (rI (nI s)), some (rI (D (15, 0, 0) ((128 * s) + q))), some (rI 14), some (rI x)]) dX6_turn_62 (by decide) rfl ?_
  refine RD.aload_n (pc := 64) dX6_turn_64 rfl ?_
  refine RD.getR (pc := 65) dX6_turn_65 flX6_16 ok14 rfl rfl ?_
  refine RD.iload_n (pc := 68) dX6_turn_68 rfl ?_
  refine RD.dup2 (pc := 69) dX6_turn_69 ?_
  refine RD.iL (pc := 70) (n := 8) s (v := nI q) hpl dX6_turn_70 (ok15 (by decide)) rfl rfl hs (by decide) ?_
  refine RD.iconst (pc := 71) (v := 1) dX6_turn_71 (by decide) ?_
  refine RD.iadd (pc := 72) dX6_turn_72 ?_
  refine RD.eqI (nI_add q 1) ?_
  refine RD.iast (pc := 73) (n := 8) s dX6_turn_73 (ok15 (by decide)) rfl rfl hs (by decide) ?_
  refine RD.iload_n (pc := 74) dX6_turn_74 rfl ?_
  refine RD.if_ne (pc := 75) 88 dX6_turn_75 (by decide) (fun c75 => ?_) (fun c75 => absurd c75 (by decide))
  refine RD.iload_n (pc := 88) dX6_turn_88 rfl ?_
  refine RD.iconst (pc := 89) (v := 3) dX6_turn_89 (by decide) ?_
  refine RD.icmp_ne (pc := 90) 104 dX6_turn_90 (by decide) (fun c90 => ?_) (fun c90 => absurd c90 (by decide))
  refine RD.iload_n (pc := 104) dX6_turn_104 rfl ?_
  refine RD.bipush (pc := 105) (v := 13) dX6_turn_105 (by decide) ?_
  refine RD.icmp_lt (pc := 107) 163 dX6_turn_107 (by decide) (fun c107 => absurd c107 (by decide)) (fun c107 => ?_)
  refine RD.iload_n (pc := 110) dX6_turn_110 rfl ?_
  refine RD.bipush (pc := 111) (v := 15) dX6_turn_111 (by decide) ?_
  refine RD.icmp_gt (pc := 113) 163 dX6_turn_113 (by decide) (fun c113 => absurd c113 (by decide)) (fun c113 => ?_)
  refine RD.iload_n (pc := 116) dX6_turn_116 rfl ?_
  refine RD.bipush (pc := 117) (v := 13) dX6_turn_117 (by decide) ?_
  refine RD.icmp_eq (pc := 119) 152 dX6_turn_119 (by decide) (fun c119 => absurd c119 (by decide)) (fun c119 => ?_)
  refine RD.iload_n (pc := 122) dX6_turn_122 rfl ?_
  refine RD.bipush (pc := 123) (v := 14) dX6_turn_123 (by decide) ?_
  refine RD.icmp_ne (pc := 125) 137 dX6_turn_125 (by decide) (fun c125 => absurd (by decide) c125) (fun c125 => ?_)
  refine RD.aload_n (pc := 128) dX6_turn_128 rfl ?_
  refine RD.getR (pc := 129) dX6_turn_129 flX6_13 ok14 rfl rfl ?_
  refine RD.iload_n (pc := 132) dX6_turn_132 rfl ?_
  refine RD.iL (pc := 133) (n := 8) s (v := D (15, 1, 0) s) (up_N (by simp) rfl) dX6_turn_133 (ok15 (by decide)) rfl rfl hs (by decide) ?_
  refine RD.if_eq (pc := 134) 152 dX6_turn_134 (by decide) (fun c134 => absurd c134 hA) (fun c134 => ?_)
  refine RD.iload_n (pc := 137) dX6_turn_137 rfl ?_
  refine RD.bipush (pc := 138) (v := 15) dX6_turn_138 (by decide) ?_
  refine RD.icmp_ne (pc := 140) 225 dX6_turn_140 (by decide) (fun c140 => ?_) (fun c140 => absurd c140 (by decide))
  refine RD.ret (pc := 225) ⟨rfl, dX6_turn_225⟩ ?_
  exact ⟨rfl, rfl⟩

set_option maxRecDepth 20000 in
set_option maxHeartbeats 1000000 in
theorem m_turnM1 (K : EK) (d : Nat) {s : Nat} (hs : s < 8) (D : DT) {q : Nat} {op x : Int32} (h : D (15, 3, 0) s = 1) (hq : q < 128) (hpl : D (15, 2, 0) s = nI q) (hop : ((D (15, 0, 0) (128 * s + q)) - (D (15, 0, 0) (128 * s + q)) / 32 * 32) + 32 - (((D (15, 0, 0) (128 * s + q)) - (D (15, 0, 0) (128 * s + q)) / 32 * 32) + 32) / 32 * 32 = op) (hx : D (15, 0, 0) (128 * s + q) >>> ((5 : Int32) &&& 31) = x) (hL : op = 15) (hA : D (15, 1, 0) s < 0) : CF K mX6_turn (d + 2) [rR (14, 0, 0), rI (nI s)] D (none) (up (up D (15, 2, 0) s (nI (q + 1))) (15, 2, 0) s x) := by
  refine CF.of [some (rR (14, 0, 0)), some (rI (nI s)), none, none, none] (by decide) (leb rfl) rfl ?_
  refine RD.aload_n (pc := 0) dX6_turn_0 rfl ?_
  refine RD.getR (pc := 1) dX6_turn_1 flX6_19 ok14 rfl rfl ?_
  refine RD.iload_n (pc := 4) dX6_turn_4 rfl ?_
  refine RD.iL (pc := 5) (n := 8) s (v := D (15, 3, 0) s) rfl dX6_turn_5 (ok15 (by decide)) rfl rfl hs (by decide) ?_
  refine RD.iconst (pc := 6) (v := 1) dX6_turn_6 (by decide) ?_
  refine RD.icmp_eq (pc := 7) 11 dX6_turn_7 (by decide) (fun c7 => ?_) (fun c7 => absurd h c7)
  refine RD.aload_n (pc := 11) dX6_turn_11 rfl ?_
  refine RD.getR (pc := 12) dX6_turn_12 flX6_16 ok14 rfl rfl ?_
  refine RD.iload_n (pc := 15) dX6_turn_15 rfl ?_
  refine RD.iL (pc := 16) (n := 8) s (v := nI q) hpl dX6_turn_16 (ok15 (by decide)) rfl rfl hs (by decide) ?_
  refine RD.cS1 (pc := 17) dX6_turn_17 mlX6_87 (c_mIsCell K _ D (nI q)) (leb rfl) ?_
  refine RD.if_ne (pc := 20) 30 dX6_turn_20 (by decide) (fun c20 => ?_) (fun c20 => absurd c20 (bIin (by decide) hq))
  refine RD.aload_n (pc := 30) dX6_turn_30 rfl ?_
  refine RD.getR (pc := 31) dX6_turn_31 flX6_9 ok14 rfl rfl ?_
  refine RD.sipush (pc := 34) (v := 128) dX6_turn_34 (by decide) ?_
  refine RD.iload_n (pc := 37) dX6_turn_37 rfl ?_
  refine RD.imul (pc := 38) dX6_turn_38 ?_
  refine RD.eqI (pk_mul 128 s) ?_
  refine RD.aload_n (pc := 39) dX6_turn_39 rfl ?_
  refine RD.getR (pc := 40) dX6_turn_40 flX6_16 ok14 rfl rfl ?_
  refine RD.iload_n (pc := 43) dX6_turn_43 rfl ?_
  refine RD.iL (pc := 44) (n := 8) s (v := nI q) hpl dX6_turn_44 (ok15 (by decide)) rfl rfl hs (by decide) ?_
  refine RD.iadd (pc := 45) dX6_turn_45 ?_
  refine RD.eqI (nI_add (128 * s) q) ?_
  refine RD.iL (pc := 46) (n := 1024) ((128 * s) + q) (v := D (15, 0, 0) ((128 * s) + q)) rfl dX6_turn_46 (ok15 (by decide)) rfl rfl (by omega) (by decide) ?_
  refine RD.istore_n (pc := 47) (ls' := [some (rR (14, 0, 0)), some (rI (nI s)), some (rI (D (15, 0, 0) ((128 * s) + q))), none, none]) dX6_turn_47 (by decide) rfl ?_
  refine RD.iload_n (pc := 48) dX6_turn_48 rfl ?_
  refine RD.bipush (pc := 49) (v := 32) dX6_turn_49 (by decide) ?_
  refine RD.irem (pc := 51) dX6_turn_51 (by decide) ?_
  refine RD.bipush (pc := 52) (v := 32) dX6_turn_52 (by decide) ?_
  refine RD.iadd (pc := 54) dX6_turn_54 ?_
  refine RD.bipush (pc := 55) (v := 32) dX6_turn_55 (by decide) ?_
  refine RD.irem (pc := 57) dX6_turn_57 (by decide) ?_
  refine RD.eqI hop ?_
  refine RD.eqI hL ?_
  refine RD.istore_n (pc := 58) (ls' := [some (rR (14, 0, 0)), some (rI (nI s)), some (rI (D (15, 0, 0) ((128 * s) + q))), some (rI 15), none]) dX6_turn_58 (by decide) rfl ?_
  refine RD.iload_n (pc := 59) dX6_turn_59 rfl ?_
  refine RD.iconst (pc := 60) (v := 5) dX6_turn_60 (by decide) ?_
  refine RD.ishr (pc := 61) dX6_turn_61 ?_
  refine RD.eqI hx ?_
  refine RD.istore (pc := 62) (ls' := [some (rR (14, 0, 0)), some (rI (nI s)), some (rI (D (15, 0, 0) ((128 * s) + q))), some (rI 15), some (rI x)]) dX6_turn_62 (by decide) rfl ?_
  refine RD.aload_n (pc := 64) dX6_turn_64 rfl ?_
  refine RD.getR (pc := 65) dX6_turn_65 flX6_16 ok14 rfl rfl ?_
  refine RD.iload_n (pc := 68) dX6_turn_68 rfl ?_
  refine RD.dup2 (pc := 69) dX6_turn_69 ?_
  refine RD.iL (pc := 70) (n := 8) s (v := nI q) hpl dX6_turn_70 (ok15 (by decide)) rfl rfl hs (by decide) ?_
  refine RD.iconst (pc := 71) (v := 1) dX6_turn_71 (by decide) ?_
  refine RD.iadd (pc := 72) dX6_turn_72 ?_
  refine RD.eqI (nI_add q 1) ?_
  refine RD.iast (pc := 73) (n := 8) s dX6_turn_73 (ok15 (by decide)) rfl rfl hs (by decide) ?_
  refine RD.iload_n (pc := 74) dX6_turn_74 rfl ?_
  refine RD.if_ne (pc := 75) 88 dX6_turn_75 (by decide) (fun c75 => ?_) (fun c75 => absurd c75 (by decide))
  refine RD.iload_n (pc := 88) dX6_turn_88 rfl ?_
  refine RD.iconst (pc := 89) (v := 3) dX6_turn_89 (by decide) ?_
  refine RD.icmp_ne (pc := 90) 104 dX6_turn_90 (by decide) (fun c90 => ?_) (fun c90 => absurd c90 (by decide))
  refine RD.iload_n (pc := 104) dX6_turn_104 rfl ?_
  refine RD.bipush (pc := 105) (v := 13) dX6_turn_105 (by decide) ?_
  refine RD.icmp_lt (pc := 107) 163 dX6_turn_107 (by decide) (fun c107 => absurd c107 (by decide)) (fun c107 => ?_)
  refine RD.iload_n (pc := 110) dX6_turn_110 rfl ?_
  refine RD.bipush (pc := 111) (v := 15) dX6_turn_111 (by decide) ?_
  refine RD.icmp_gt (pc := 113) 163 dX6_turn_113 (by decide) (fun c113 => absurd c113 (by decide)) (fun c113 => ?_)
  refine RD.iload_n (pc := 116) dX6_turn_116 rfl ?_
  refine RD.bipush (pc := 117) (v := 13) dX6_turn_117 (by decide) ?_
  refine RD.icmp_eq (pc := 119) 152 dX6_turn_119 (by decide) (fun c119 => absurd c119 (by decide)) (fun c119 => ?_)
  refine RD.iload_n (pc := 122) dX6_turn_122 rfl ?_
  refine RD.bipush (pc := 123) (v := 14) dX6_turn_123 (by decide) ?_
  refine RD.icmp_ne (pc := 125) 137 dX6_turn_125 (by decide) (fun c125 => ?_) (fun c125 => absurd c125 (by decide))
  refine RD.iload_n (pc := 137) dX6_turn_137 rfl ?_
  refine RD.bipush (pc := 138) (v := 15) dX6_turn_138 (by decide) ?_
  refine RD.icmp_ne (pc := 140) 225 dX6_turn_140 (by decide) (fun c140 => absurd (by decide) c140) (fun c140 => ?_)
  refine RD.aload_n (pc := 143) dX6_turn_143 rfl ?_
  refine RD.getR (pc := 144) dX6_turn_144 flX6_13 ok14 rfl rfl ?_
  refine RD.iload_n (pc := 147) dX6_turn_147 rfl ?_
  refine RD.iL (pc := 148) (n := 8) s (v := D (15, 1, 0) s) (up_N (by simp) rfl) dX6_turn_148 (ok15 (by decide)) rfl rfl hs (by decide) ?_
  refine RD.if_ge (pc := 149) 225 dX6_turn_149 (by decide) (fun c149 => absurd c149 (Int32.not_le.mpr hA)) (fun c149 => ?_)
  refine RD.aload_n (pc := 152) dX6_turn_152 rfl ?_
  refine RD.getR (pc := 153) dX6_turn_153 flX6_16 ok14 rfl rfl ?_
  refine RD.iload_n (pc := 156) dX6_turn_156 rfl ?_
  refine RD.iload (pc := 157) dX6_turn_157 rfl ?_
  refine RD.iast (pc := 159) (n := 8) s dX6_turn_159 (ok15 (by decide)) rfl rfl hs (by decide) ?_
  refine RD.goto (pc := 160) 225 dX6_turn_160 (by decide) ?_
  refine RD.ret (pc := 225) ⟨rfl, dX6_turn_225⟩ ?_
  exact ⟨rfl, rfl⟩

set_option maxRecDepth 20000 in
set_option maxHeartbeats 1000000 in
theorem m_turnM0 (K : EK) (d : Nat) {s : Nat} (hs : s < 8) (D : DT) {q : Nat} {op x : Int32} (h : D (15, 3, 0) s = 1) (hq : q < 128) (hpl : D (15, 2, 0) s = nI q) (hop : ((D (15, 0, 0) (128 * s + q)) - (D (15, 0, 0) (128 * s + q)) / 32 * 32) + 32 - (((D (15, 0, 0) (128 * s + q)) - (D (15, 0, 0) (128 * s + q)) / 32 * 32) + 32) / 32 * 32 = op) (hx : D (15, 0, 0) (128 * s + q) >>> ((5 : Int32) &&& 31) = x) (hL : op = 15) (hA : ¬ D (15, 1, 0) s < 0) : CF K mX6_turn (d + 2) [rR (14, 0, 0), rI (nI s)] D (none) (up D (15, 2, 0) s (nI (q + 1))) := by
  refine CF.of [some (rR (14, 0, 0)), some (rI (nI s)), none, none, none] (by decide) (leb rfl) rfl ?_
  refine RD.aload_n (pc := 0) dX6_turn_0 rfl ?_
  refine RD.getR (pc := 1) dX6_turn_1 flX6_19 ok14 rfl rfl ?_
  refine RD.iload_n (pc := 4) dX6_turn_4 rfl ?_
  refine RD.iL (pc := 5) (n := 8) s (v := D (15, 3, 0) s) rfl dX6_turn_5 (ok15 (by decide)) rfl rfl hs (by decide) ?_
  refine RD.iconst (pc := 6) (v := 1) dX6_turn_6 (by decide) ?_
  refine RD.icmp_eq (pc := 7) 11 dX6_turn_7 (by decide) (fun c7 => ?_) (fun c7 => absurd h c7)
  refine RD.aload_n (pc := 11) dX6_turn_11 rfl ?_
  refine RD.getR (pc := 12) dX6_turn_12 flX6_16 ok14 rfl rfl ?_
  refine RD.iload_n (pc := 15) dX6_turn_15 rfl ?_
  refine RD.iL (pc := 16) (n := 8) s (v := nI q) hpl dX6_turn_16 (ok15 (by decide)) rfl rfl hs (by decide) ?_
  refine RD.cS1 (pc := 17) dX6_turn_17 mlX6_87 (c_mIsCell K _ D (nI q)) (leb rfl) ?_
  refine RD.if_ne (pc := 20) 30 dX6_turn_20 (by decide) (fun c20 => ?_) (fun c20 => absurd c20 (bIin (by decide) hq))
  refine RD.aload_n (pc := 30) dX6_turn_30 rfl ?_
  refine RD.getR (pc := 31) dX6_turn_31 flX6_9 ok14 rfl rfl ?_
  refine RD.sipush (pc := 34) (v := 128) dX6_turn_34 (by decide) ?_
  refine RD.iload_n (pc := 37) dX6_turn_37 rfl ?_
  refine RD.imul (pc := 38) dX6_turn_38 ?_
  refine RD.eqI (pk_mul 128 s) ?_
  refine RD.aload_n (pc := 39) dX6_turn_39 rfl ?_
  refine RD.getR (pc := 40) dX6_turn_40 flX6_16 ok14 rfl rfl ?_
  refine RD.iload_n (pc := 43) dX6_turn_43 rfl ?_
  refine RD.iL (pc := 44) (n := 8) s (v := nI q) hpl dX6_turn_44 (ok15 (by decide)) rfl rfl hs (by decide) ?_
  refine RD.iadd (pc := 45) dX6_turn_45 ?_
  refine RD.eqI (nI_add (128 * s) q) ?_
  refine RD.iL (pc := 46) (n := 1024) ((128 * s) + q) (v := D (15, 0, 0) ((128 * s) + q)) rfl dX6_turn_46 (ok15 (by decide)) rfl rfl (by omega) (by decide) ?_
  refine RD.istore_n (pc := 47) (ls' := [some (rR (14, 0, 0)), some (rI (nI s)), some (rI (D (15, 0, 0) ((128 * s) + q))), none, none]) dX6_turn_47 (by decide) rfl ?_
  refine RD.iload_n (pc := 48) dX6_turn_48 rfl ?_
  refine RD.bipush (pc := 49) (v := 32) dX6_turn_49 (by decide) ?_
  refine RD.irem (pc := 51) dX6_turn_51 (by decide) ?_
  refine RD.bipush (pc := 52) (v := 32) dX6_turn_52 (by decide) ?_
  refine RD.iadd (pc := 54) dX6_turn_54 ?_
  refine RD.bipush (pc := 55) (v := 32) dX6_turn_55 (by decide) ?_
  refine RD.irem (pc := 57) dX6_turn_57 (by decide) ?_
  refine RD.eqI hop ?_
  refine RD.eqI hL ?_
  refine RD.istore_n (pc := 58) (ls' := [some (rR (14, 0, 0)), some (rI (nI s)), some (rI (D (15, 0, 0) ((128 * s) + q))), some (rI 15), none]) dX6_turn_58 (by decide) rfl ?_
  refine RD.iload_n (pc := 59) dX6_turn_59 rfl ?_
  refine RD.iconst (pc := 60) (v := 5) dX6_turn_60 (by decide) ?_
  refine RD.ishr (pc := 61) dX6_turn_61 ?_
  refine RD.eqI hx ?_
  refine RD.istore (pc := 62) (ls' := [some (rR (14, 0, 0)), some (rI (nI s)), some (rI (D (15, 0, 0) ((128 * s) + q))), some (rI 15), some (rI x)]) dX6_turn_62 (by decide) rfl ?_
  refine RD.aload_n (pc := 64) dX6_turn_64 rfl ?_
  refine RD.getR (pc := 65) dX6_turn_65 flX6_16 ok14 rfl rfl ?_
  refine RD.iload_n (pc := 68) dX6_turn_68 rfl ?_
  refine RD.dup2 (pc := 69) dX6_turn_69 ?_
  refine RD.iL (pc := 70) (n := 8) s (v := nI q) hpl dX6_turn_70 (ok15 (by decide)) rfl rfl hs (by decide) ?_
  refine RD.iconst (pc := 71) (v := 1) dX6_turn_71 (by decide) ?_
  refine RD.iadd (pc := 72) dX6_turn_72 ?_
  refine RD.eqI (nI_add q 1) ?_
  refine RD.iast (pc := 73) (n := 8) s dX6_turn_73 (ok15 (by decide)) rfl rfl hs (by decide) ?_
  refine RD.iload_n (pc := 74) dX6_turn_74 rfl ?_
  refine RD.if_ne (pc := 75) 88 dX6_turn_75 (by decide) (fun c75 => ?_) (fun c75 => absurd c75 (by decide))
  refine RD.iload_n (pc := 88) dX6_turn_88 rfl ?_
  refine RD.iconst (pc := 89) (v := 3) dX6_turn_89 (by decide) ?_
  refine RD.icmp_ne (pc := 90) 104 dX6_turn_90 (by decide) (fun c90 => ?_) (fun c90 => absurd c90 (by decide))
  refine RD.iload_n (pc := 104) dX6_turn_104 rfl ?_
  refine RD.bipush (pc := 105) (v := 13) dX6_turn_105 (by decide) ?_
  refine RD.icmp_lt (pc := 107) 163 dX6_turn_107 (by decide) (fun c107 => absurd c107 (by decide)) (fun c107 => ?_)
  refine RD.iload_n (pc := 110) dX6_turn_110 rfl ?_
  refine RD.bipush (pc := 111) (v := 15) dX6_turn_111 (by decide) ?_
  refine RD.icmp_gt (pc := 113) 163 dX6_turn_113 (by decide) (fun c113 => absurd c113 (by decide)) (fun c113 => ?_)
  refine RD.iload_n (pc := 116) dX6_turn_116 rfl ?_
  refine RD.bipush (pc := 117) (v := 13) dX6_turn_117 (by decide) ?_
  refine RD.icmp_eq (pc := 119) 152 dX6_turn_119 (by decide) (fun c119 => absurd c119 (by decide)) (fun c119 => ?_)
  refine RD.iload_n (pc := 122) dX6_turn_122 rfl ?_
  refine RD.bipush (pc := 123) (v := 14) dX6_turn_123 (by decide) ?_
  refine RD.icmp_ne (pc := 125) 137 dX6_turn_125 (by decide) (fun c125 => ?_) (fun c125 => absurd c125 (by decide))
  refine RD.iload_n (pc := 137) dX6_turn_137 rfl ?_
  refine RD.bipush (pc := 138) (v := 15) dX6_turn_138 (by decide) ?_
  refine RD.icmp_ne (pc := 140) 225 dX6_turn_140 (by decide) (fun c140 => absurd (by decide) c140) (fun c140 => ?_)
  refine RD.aload_n (pc := 143) dX6_turn_143 rfl ?_
  refine RD.getR (pc := 144) dX6_turn_144 flX6_13 ok14 rfl rfl ?_
  refine RD.iload_n (pc := 147) dX6_turn_147 rfl ?_
  refine RD.iL (pc := 148) (n := 8) s (v := D (15, 1, 0) s) (up_N (by simp) rfl) dX6_turn_148 (ok15 (by decide)) rfl rfl hs (by decide) ?_
  refine RD.if_ge (pc := 149) 225 dX6_turn_149 (by decide) (fun c149 => ?_) (fun c149 => absurd (i32_nlt hA) c149)
  refine RD.ret (pc := 225) ⟨rfl, dX6_turn_225⟩ ?_
  exact ⟨rfl, rfl⟩

set_option maxRecDepth 20000 in
set_option maxHeartbeats 1000000 in
theorem m_turnS (K : EK) (d : Nat) {s : Nat} (hs : s < 8) (D : DT) {q : Nat} {op x : Int32} (h : D (15, 3, 0) s = 1) (hq : q < 128) (hpl : D (15, 2, 0) s = nI q) (hop : ((D (15, 0, 0) (128 * s + q)) - (D (15, 0, 0) (128 * s + q)) / 32 * 32) + 32 - (((D (15, 0, 0) (128 * s + q)) - (D (15, 0, 0) (128 * s + q)) / 32 * 32) + 32) / 32 * 32 = op) (hx : D (15, 0, 0) (128 * s + q) >>> ((5 : Int32) &&& 31) = x) (hL : op = 16) {D2 : DT} (hc : CF K mX6_call (d + 1) [rR (14, 0, 0), rI (nI s), rI x] (up D (15, 2, 0) s (nI (q + 1))) none D2) : CF K mX6_turn (d + 2) [rR (14, 0, 0), rI (nI s)] D (none) D2 := by
  refine CF.of [some (rR (14, 0, 0)), some (rI (nI s)), none, none, none] (by decide) (leb rfl) rfl ?_
  refine RD.aload_n (pc := 0) dX6_turn_0 rfl ?_
  refine RD.getR (pc := 1) dX6_turn_1 flX6_19 ok14 rfl rfl ?_
  refine RD.iload_n (pc := 4) dX6_turn_4 rfl ?_
  refine RD.iL (pc := 5) (n := 8) s (v := D (15, 3, 0) s) rfl dX6_turn_5 (ok15 (by decide)) rfl rfl hs (by decide) ?_
  refine RD.iconst (pc := 6) (v := 1) dX6_turn_6 (by decide) ?_
  refine RD.icmp_eq (pc := 7) 11 dX6_turn_7 (by decide) (fun c7 => ?_) (fun c7 => absurd h c7)
  refine RD.aload_n (pc := 11) dX6_turn_11 rfl ?_
  refine RD.getR (pc := 12) dX6_turn_12 flX6_16 ok14 rfl rfl ?_
  refine RD.iload_n (pc := 15) dX6_turn_15 rfl ?_
  refine RD.iL (pc := 16) (n := 8) s (v := nI q) hpl dX6_turn_16 (ok15 (by decide)) rfl rfl hs (by decide) ?_
  refine RD.cS1 (pc := 17) dX6_turn_17 mlX6_87 (c_mIsCell K _ D (nI q)) (leb rfl) ?_
  refine RD.if_ne (pc := 20) 30 dX6_turn_20 (by decide) (fun c20 => ?_) (fun c20 => absurd c20 (bIin (by decide) hq))
  refine RD.aload_n (pc := 30) dX6_turn_30 rfl ?_
  refine RD.getR (pc := 31) dX6_turn_31 flX6_9 ok14 rfl rfl ?_
  refine RD.sipush (pc := 34) (v := 128) dX6_turn_34 (by decide) ?_
  refine RD.iload_n (pc := 37) dX6_turn_37 rfl ?_
  refine RD.imul (pc := 38) dX6_turn_38 ?_
  refine RD.eqI (pk_mul 128 s) ?_
  refine RD.aload_n (pc := 39) dX6_turn_39 rfl ?_
  refine RD.getR (pc := 40) dX6_turn_40 flX6_16 ok14 rfl rfl ?_
  refine RD.iload_n (pc := 43) dX6_turn_43 rfl ?_
  refine RD.iL (pc := 44) (n := 8) s (v := nI q) hpl dX6_turn_44 (ok15 (by decide)) rfl rfl hs (by decide) ?_
  refine RD.iadd (pc := 45) dX6_turn_45 ?_
  refine RD.eqI (nI_add (128 * s) q) ?_
  refine RD.iL (pc := 46) (n := 1024) ((128 * s) + q) (v := D (15, 0, 0) ((128 * s) + q)) rfl dX6_turn_46 (ok15 (by decide)) rfl rfl (by omega) (by decide) ?_
  refine RD.istore_n (pc := 47) (ls' := [some (rR (14, 0, 0)), some (rI (nI s)), some (rI (D (15, 0, 0) ((128 * s) + q))), none, none]) dX6_turn_47 (by decide) rfl ?_
  refine RD.iload_n (pc := 48) dX6_turn_48 rfl ?_
  refine RD.bipush (pc := 49) (v := 32) dX6_turn_49 (by decide) ?_
  refine RD.irem (pc := 51) dX6_turn_51 (by decide) ?_
  refine RD.bipush (pc := 52) (v := 32) dX6_turn_52 (by decide) ?_
  refine RD.iadd (pc := 54) dX6_turn_54 ?_
  refine RD.bipush (pc := 55) (v := 32) dX6_turn_55 (by decide) ?_
  refine RD.irem (pc := 57) dX6_turn_57 (by decide) ?_
  refine RD.eqI hop ?_
  refine RD.eqI hL ?_
  refine RD.istore_n (pc := 58) (ls' := [some (rR (14, 0, 0)), some (rI (nI s)), some (rI (D (15, 0, 0) ((128 * s) + q))), some (rI 16), none]) dX6_turn_58 (by decide) rfl ?_
  refine RD.iload_n (pc := 59) dX6_turn_59 rfl ?_
  refine RD.iconst (pc := 60) (v := 5) dX6_turn_60 (by decide) ?_
  refine RD.ishr (pc := 61) dX6_turn_61 ?_
  refine RD.eqI hx ?_
  refine RD.istore (pc := 62) (ls' := [some (rR (14, 0, 0)), some (rI (nI s)), some (rI (D (15, 0, 0) ((128 * s) + q))), some (rI 16), some (rI x)]) dX6_turn_62 (by decide) rfl ?_
  refine RD.aload_n (pc := 64) dX6_turn_64 rfl ?_
  refine RD.getR (pc := 65) dX6_turn_65 flX6_16 ok14 rfl rfl ?_
  refine RD.iload_n (pc := 68) dX6_turn_68 rfl ?_
  refine RD.dup2 (pc := 69) dX6_turn_69 ?_
  refine RD.iL (pc := 70) (n := 8) s (v := nI q) hpl dX6_turn_70 (ok15 (by decide)) rfl rfl hs (by decide) ?_
  refine RD.iconst (pc := 71) (v := 1) dX6_turn_71 (by decide) ?_
  refine RD.iadd (pc := 72) dX6_turn_72 ?_
  refine RD.eqI (nI_add q 1) ?_
  refine RD.iast (pc := 73) (n := 8) s dX6_turn_73 (ok15 (by decide)) rfl rfl hs (by decide) ?_
  refine RD.iload_n (pc := 74) dX6_turn_74 rfl ?_
  refine RD.if_ne (pc := 75) 88 dX6_turn_75 (by decide) (fun c75 => ?_) (fun c75 => absurd c75 (by decide))
  refine RD.iload_n (pc := 88) dX6_turn_88 rfl ?_
  refine RD.iconst (pc := 89) (v := 3) dX6_turn_89 (by decide) ?_
  refine RD.icmp_ne (pc := 90) 104 dX6_turn_90 (by decide) (fun c90 => ?_) (fun c90 => absurd c90 (by decide))
  refine RD.iload_n (pc := 104) dX6_turn_104 rfl ?_
  refine RD.bipush (pc := 105) (v := 13) dX6_turn_105 (by decide) ?_
  refine RD.icmp_lt (pc := 107) 163 dX6_turn_107 (by decide) (fun c107 => absurd c107 (by decide)) (fun c107 => ?_)
  refine RD.iload_n (pc := 110) dX6_turn_110 rfl ?_
  refine RD.bipush (pc := 111) (v := 15) dX6_turn_111 (by decide) ?_
  refine RD.icmp_gt (pc := 113) 163 dX6_turn_113 (by decide) (fun c113 => ?_) (fun c113 => absurd (by decide) c113)
  refine RD.iload_n (pc := 163) dX6_turn_163 rfl ?_
  refine RD.bipush (pc := 164) (v := 16) dX6_turn_164 (by decide) ?_
  refine RD.icmp_ne (pc := 166) 179 dX6_turn_166 (by decide) (fun c166 => absurd (by decide) c166) (fun c166 => ?_)
  refine RD.aload_n (pc := 169) dX6_turn_169 rfl ?_
  refine RD.iload_n (pc := 170) dX6_turn_170 rfl ?_
  refine RD.iload (pc := 171) dX6_turn_171 rfl ?_
  refine RD.cV2v (pc := 173) dX6_turn_173 mlX6_93 rfl ok14 rfl hc (leb rfl) ?_
  refine RD.goto (pc := 176) 225 dX6_turn_176 (by decide) ?_
  refine RD.ret (pc := 225) ⟨rfl, dX6_turn_225⟩ ?_
  exact ⟨rfl, rfl⟩

set_option maxRecDepth 20000 in
set_option maxHeartbeats 1000000 in
theorem m_turnT1 (K : EK) (d : Nat) {s : Nat} (hs : s < 8) (D : DT) {q : Nat} {op x : Int32} (h : D (15, 3, 0) s = 1) (hq : q < 128) (hpl : D (15, 2, 0) s = nI q) (hop : ((D (15, 0, 0) (128 * s + q)) - (D (15, 0, 0) (128 * s + q)) / 32 * 32) + 32 - (((D (15, 0, 0) (128 * s + q)) - (D (15, 0, 0) (128 * s + q)) / 32 * 32) + 32) / 32 * 32 = op) (hx : D (15, 0, 0) (128 * s + q) >>> ((5 : Int32) &&& 31) = x) (hO : 16 < op) : CF K mX6_turn (d + 2) [rR (14, 0, 0), rI (nI s)] D (none) (mTrap (up D (15, 2, 0) s (nI (q + 1))) s 1) := by
  refine CF.of [some (rR (14, 0, 0)), some (rI (nI s)), none, none, none] (by decide) (leb rfl) rfl ?_
  refine RD.aload_n (pc := 0) dX6_turn_0 rfl ?_
  refine RD.getR (pc := 1) dX6_turn_1 flX6_19 ok14 rfl rfl ?_
  refine RD.iload_n (pc := 4) dX6_turn_4 rfl ?_
  refine RD.iL (pc := 5) (n := 8) s (v := D (15, 3, 0) s) rfl dX6_turn_5 (ok15 (by decide)) rfl rfl hs (by decide) ?_
  refine RD.iconst (pc := 6) (v := 1) dX6_turn_6 (by decide) ?_
  refine RD.icmp_eq (pc := 7) 11 dX6_turn_7 (by decide) (fun c7 => ?_) (fun c7 => absurd h c7)
  refine RD.aload_n (pc := 11) dX6_turn_11 rfl ?_
  refine RD.getR (pc := 12) dX6_turn_12 flX6_16 ok14 rfl rfl ?_
  refine RD.iload_n (pc := 15) dX6_turn_15 rfl ?_
  refine RD.iL (pc := 16) (n := 8) s (v := nI q) hpl dX6_turn_16 (ok15 (by decide)) rfl rfl hs (by decide) ?_
  refine RD.cS1 (pc := 17) dX6_turn_17 mlX6_87 (c_mIsCell K _ D (nI q)) (leb rfl) ?_
  refine RD.if_ne (pc := 20) 30 dX6_turn_20 (by decide) (fun c20 => ?_) (fun c20 => absurd c20 (bIin (by decide) hq))
  refine RD.aload_n (pc := 30) dX6_turn_30 rfl ?_
  refine RD.getR (pc := 31) dX6_turn_31 flX6_9 ok14 rfl rfl ?_
  refine RD.sipush (pc := 34) (v := 128) dX6_turn_34 (by decide) ?_
  refine RD.iload_n (pc := 37) dX6_turn_37 rfl ?_
  refine RD.imul (pc := 38) dX6_turn_38 ?_
  refine RD.eqI (pk_mul 128 s) ?_
  refine RD.aload_n (pc := 39) dX6_turn_39 rfl ?_
  refine RD.getR (pc := 40) dX6_turn_40 flX6_16 ok14 rfl rfl ?_
  refine RD.iload_n (pc := 43) dX6_turn_43 rfl ?_
  refine RD.iL (pc := 44) (n := 8) s (v := nI q) hpl dX6_turn_44 (ok15 (by decide)) rfl rfl hs (by decide) ?_
  refine RD.iadd (pc := 45) dX6_turn_45 ?_
  refine RD.eqI (nI_add (128 * s) q) ?_
  refine RD.iL (pc := 46) (n := 1024) ((128 * s) + q) (v := D (15, 0, 0) ((128 * s) + q)) rfl dX6_turn_46 (ok15 (by decide)) rfl rfl (by omega) (by decide) ?_
  refine RD.istore_n (pc := 47) (ls' := [some (rR (14, 0, 0)), some (rI (nI s)), some (rI (D (15, 0, 0) ((128 * s) + q))), none, none]) dX6_turn_47 (by decide) rfl ?_
  refine RD.iload_n (pc := 48) dX6_turn_48 rfl ?_
  refine RD.bipush (pc := 49) (v := 32) dX6_turn_49 (by decide) ?_
  refine RD.irem (pc := 51) dX6_turn_51 (by decide) ?_
  refine RD.bipush (pc := 52) (v := 32) dX6_turn_52 (by decide) ?_
  refine RD.iadd (pc := 54) dX6_turn_54 ?_
  refine RD.bipush (pc := 55) (v := 32) dX6_turn_55 (by decide) ?_
  refine RD.irem (pc := 57) dX6_turn_57 (by decide) ?_
  refine RD.eqI hop ?_
  refine RD.istore_n (pc := 58) (ls' := [some (rR (14, 0, 0)), some (rI (nI s)), some (rI (D (15, 0, 0) ((128 * s) + q))), some (rI op), none]) dX6_turn_58 (by decide) rfl ?_
  refine RD.iload_n (pc := 59) dX6_turn_59 rfl ?_
  refine RD.iconst (pc := 60) (v := 5) dX6_turn_60 (by decide) ?_
  refine RD.ishr (pc := 61) dX6_turn_61 ?_
  refine RD.eqI hx ?_
  refine RD.istore (pc := 62) (ls' := [some (rR (14, 0, 0)), some (rI (nI s)), some (rI (D (15, 0, 0) ((128 * s) + q))), some (rI op), some (rI x)]) dX6_turn_62 (by decide) rfl ?_
  refine RD.aload_n (pc := 64) dX6_turn_64 rfl ?_
  refine RD.getR (pc := 65) dX6_turn_65 flX6_16 ok14 rfl rfl ?_
  refine RD.iload_n (pc := 68) dX6_turn_68 rfl ?_
  refine RD.dup2 (pc := 69) dX6_turn_69 ?_
  refine RD.iL (pc := 70) (n := 8) s (v := nI q) hpl dX6_turn_70 (ok15 (by decide)) rfl rfl hs (by decide) ?_
  refine RD.iconst (pc := 71) (v := 1) dX6_turn_71 (by decide) ?_
  refine RD.iadd (pc := 72) dX6_turn_72 ?_
  refine RD.eqI (nI_add q 1) ?_
  refine RD.iast (pc := 73) (n := 8) s dX6_turn_73 (ok15 (by decide)) rfl rfl hs (by decide) ?_
  refine RD.iload_n (pc := 74) dX6_turn_74 rfl ?_
  refine RD.if_ne (pc := 75) 88 dX6_turn_75 (by decide) (fun c75 => ?_) (fun c75 => absurd c75 (fun e => by rw [e] at hO; revert hO; decide))
  refine RD.iload_n (pc := 88) dX6_turn_88 rfl ?_
  refine RD.iconst (pc := 89) (v := 3) dX6_turn_89 (by decide) ?_
  refine RD.icmp_ne (pc := 90) 104 dX6_turn_90 (by decide) (fun c90 => ?_) (fun c90 => absurd c90 (fun e => by rw [e] at hO; revert hO; decide))
  refine RD.iload_n (pc := 104) dX6_turn_104 rfl ?_
  refine RD.bipush (pc := 105) (v := 13) dX6_turn_105 (by decide) ?_
  refine RD.icmp_lt (pc := 107) 163 dX6_turn_107 (by decide) (fun c107 => absurd c107 (fun e => absurd (Int32.lt_trans hO e) (by decide))) (fun c107 => ?_)
  refine RD.iload_n (pc := 110) dX6_turn_110 rfl ?_
  refine RD.bipush (pc := 111) (v := 15) dX6_turn_111 (by decide) ?_
  refine RD.icmp_gt (pc := 113) 163 dX6_turn_113 (by decide) (fun c113 => ?_) (fun c113 => absurd (Int32.lt_trans (by decide) hO) c113)
  refine RD.iload_n (pc := 163) dX6_turn_163 rfl ?_
  refine RD.bipush (pc := 164) (v := 16) dX6_turn_164 (by decide) ?_
  refine RD.icmp_ne (pc := 166) 179 dX6_turn_166 (by decide) (fun c166 => ?_) (fun c166 => absurd c166 (fun e => by rw [e] at hO; revert hO; decide))
  refine RD.iload_n (pc := 179) dX6_turn_179 rfl ?_
  refine RD.bipush (pc := 180) (v := 16) dX6_turn_180 (by decide) ?_
  refine RD.icmp_le (pc := 182) 194 dX6_turn_182 (by decide) (fun c182 => absurd c182 (Int32.not_le.mpr hO)) (fun c182 => ?_)
  refine RD.aload_n (pc := 185) dX6_turn_185 rfl ?_
  refine RD.iload_n (pc := 186) dX6_turn_186 rfl ?_
  refine RD.iconst (pc := 187) (v := 1) dX6_turn_187 (by decide) ?_
  refine RD.cV2v (pc := 188) dX6_turn_188 mlX6_90 rfl ok14 rfl (c_traps K _ (s := s) (by omega) (up D (15, 2, 0) s (nI (q + 1))) 1) (leb rfl) ?_
  refine RD.goto (pc := 191) 225 dX6_turn_191 (by decide) ?_
  refine RD.ret (pc := 225) ⟨rfl, dX6_turn_225⟩ ?_
  exact ⟨rfl, rfl⟩

set_option maxRecDepth 20000 in
set_option maxHeartbeats 1000000 in
theorem m_turnT2 (K : EK) (d : Nat) {s : Nat} (hs : s < 8) (D : DT) {q : Nat} {op x : Int32} (h : D (15, 3, 0) s = 1) (hq : q < 128) (hpl : D (15, 2, 0) s = nI q) (hop : ((D (15, 0, 0) (128 * s + q)) - (D (15, 0, 0) (128 * s + q)) / 32 * 32) + 32 - (((D (15, 0, 0) (128 * s + q)) - (D (15, 0, 0) (128 * s + q)) / 32 * 32) + 32) / 32 * 32 = op) (hx : D (15, 0, 0) (128 * s + q) >>> ((5 : Int32) &&& 31) = x) (h0 : ¬ op = 0) (h3 : ¬ op = 3) (h13 : op < 13) (hX : inR x 128 = false) : CF K mX6_turn (d + 2) [rR (14, 0, 0), rI (nI s)] D (none) (mTrap (up D (15, 2, 0) s (nI (q + 1))) s 2) := by
  refine CF.of [some (rR (14, 0, 0)), some (rI (nI s)), none, none, none] (by decide) (leb rfl) rfl ?_
  refine RD.aload_n (pc := 0) dX6_turn_0 rfl ?_
  refine RD.getR (pc := 1) dX6_turn_1 flX6_19 ok14 rfl rfl ?_
  refine RD.iload_n (pc := 4) dX6_turn_4 rfl ?_
  refine RD.iL (pc := 5) (n := 8) s (v := D (15, 3, 0) s) rfl dX6_turn_5 (ok15 (by decide)) rfl rfl hs (by decide) ?_
  refine RD.iconst (pc := 6) (v := 1) dX6_turn_6 (by decide) ?_
  refine RD.icmp_eq (pc := 7) 11 dX6_turn_7 (by decide) (fun c7 => ?_) (fun c7 => absurd h c7)
  refine RD.aload_n (pc := 11) dX6_turn_11 rfl ?_
  refine RD.getR (pc := 12) dX6_turn_12 flX6_16 ok14 rfl rfl ?_
  refine RD.iload_n (pc := 15) dX6_turn_15 rfl ?_
  refine RD.iL (pc := 16) (n := 8) s (v := nI q) hpl dX6_turn_16 (ok15 (by decide)) rfl rfl hs (by decide) ?_
  refine RD.cS1 (pc := 17) dX6_turn_17 mlX6_87 (c_mIsCell K _ D (nI q)) (leb rfl) ?_
  refine RD.if_ne (pc := 20) 30 dX6_turn_20 (by decide) (fun c20 => ?_) (fun c20 => absurd c20 (bIin (by decide) hq))
  refine RD.aload_n (pc := 30) dX6_turn_30 rfl ?_
  refine RD.getR (pc := 31) dX6_turn_31 flX6_9 ok14 rfl rfl ?_
  refine RD.sipush (pc := 34) (v := 128) dX6_turn_34 (by decide) ?_
  refine RD.iload_n (pc := 37) dX6_turn_37 rfl ?_
  refine RD.imul (pc := 38) dX6_turn_38 ?_
  refine RD.eqI (pk_mul 128 s) ?_
  refine RD.aload_n (pc := 39) dX6_turn_39 rfl ?_
  refine RD.getR (pc := 40) dX6_turn_40 flX6_16 ok14 rfl rfl ?_
  refine RD.iload_n (pc := 43) dX6_turn_43 rfl ?_
  refine RD.iL (pc := 44) (n := 8) s (v := nI q) hpl dX6_turn_44 (ok15 (by decide)) rfl rfl hs (by decide) ?_
  refine RD.iadd (pc := 45) dX6_turn_45 ?_
  refine RD.eqI (nI_add (128 * s) q) ?_
  refine RD.iL (pc := 46) (n := 1024) ((128 * s) + q) (v := D (15, 0, 0) ((128 * s) + q)) rfl dX6_turn_46 (ok15 (by decide)) rfl rfl (by omega) (by decide) ?_
  refine RD.istore_n (pc := 47) (ls' := [some (rR (14, 0, 0)), some (rI (nI s)), some (rI (D (15, 0, 0) ((128 * s) + q))), none, none]) dX6_turn_47 (by decide) rfl ?_
  refine RD.iload_n (pc := 48) dX6_turn_48 rfl ?_
  refine RD.bipush (pc := 49) (v := 32) dX6_turn_49 (by decide) ?_
  refine RD.irem (pc := 51) dX6_turn_51 (by decide) ?_
  refine RD.bipush (pc := 52) (v := 32) dX6_turn_52 (by decide) ?_
  refine RD.iadd (pc := 54) dX6_turn_54 ?_
  refine RD.bipush (pc := 55) (v := 32) dX6_turn_55 (by decide) ?_
  refine RD.irem (pc := 57) dX6_turn_57 (by decide) ?_
  refine RD.eqI hop ?_
  refine RD.istore_n (pc := 58) (ls' := [some (rR (14, 0, 0)), some (rI (nI s)), some (rI (D (15, 0, 0) ((128 * s) + q))), some (rI op), none]) dX6_turn_58 (by decide) rfl ?_
  refine RD.iload_n (pc := 59) dX6_turn_59 rfl ?_
  refine RD.iconst (pc := 60) (v := 5) dX6_turn_60 (by decide) ?_
  refine RD.ishr (pc := 61) dX6_turn_61 ?_
  refine RD.eqI hx ?_
  refine RD.istore (pc := 62) (ls' := [some (rR (14, 0, 0)), some (rI (nI s)), some (rI (D (15, 0, 0) ((128 * s) + q))), some (rI op), some (rI x)]) dX6_turn_62 (by decide) rfl ?_
  refine RD.aload_n (pc := 64) dX6_turn_64 rfl ?_
  refine RD.getR (pc := 65) dX6_turn_65 flX6_16 ok14 rfl rfl ?_
  refine RD.iload_n (pc := 68) dX6_turn_68 rfl ?_
  refine RD.dup2 (pc := 69) dX6_turn_69 ?_
  refine RD.iL (pc := 70) (n := 8) s (v := nI q) hpl dX6_turn_70 (ok15 (by decide)) rfl rfl hs (by decide) ?_
  refine RD.iconst (pc := 71) (v := 1) dX6_turn_71 (by decide) ?_
  refine RD.iadd (pc := 72) dX6_turn_72 ?_
  refine RD.eqI (nI_add q 1) ?_
  refine RD.iast (pc := 73) (n := 8) s dX6_turn_73 (ok15 (by decide)) rfl rfl hs (by decide) ?_
  refine RD.iload_n (pc := 74) dX6_turn_74 rfl ?_
  refine RD.if_ne (pc := 75) 88 dX6_turn_75 (by decide) (fun c75 => ?_) (fun c75 => absurd c75 h0)
  refine RD.iload_n (pc := 88) dX6_turn_88 rfl ?_
  refine RD.iconst (pc := 89) (v := 3) dX6_turn_89 (by decide) ?_
  refine RD.icmp_ne (pc := 90) 104 dX6_turn_90 (by decide) (fun c90 => ?_) (fun c90 => absurd c90 h3)
  refine RD.iload_n (pc := 104) dX6_turn_104 rfl ?_
  refine RD.bipush (pc := 105) (v := 13) dX6_turn_105 (by decide) ?_
  refine RD.icmp_lt (pc := 107) 163 dX6_turn_107 (by decide) (fun c107 => ?_) (fun c107 => absurd h13 c107)
  refine RD.iload_n (pc := 163) dX6_turn_163 rfl ?_
  refine RD.bipush (pc := 164) (v := 16) dX6_turn_164 (by decide) ?_
  refine RD.icmp_ne (pc := 166) 179 dX6_turn_166 (by decide) (fun c166 => ?_) (fun c166 => absurd c166 (fun e => by rw [e] at h13; revert h13; decide))
  refine RD.iload_n (pc := 179) dX6_turn_179 rfl ?_
  refine RD.bipush (pc := 180) (v := 16) dX6_turn_180 (by decide) ?_
  refine RD.icmp_le (pc := 182) 194 dX6_turn_182 (by decide) (fun c182 => ?_) (fun c182 => absurd (Int32.le_of_lt (Int32.lt_trans h13 (by decide))) c182)
  refine RD.iload (pc := 194) dX6_turn_194 rfl ?_
  refine RD.cS1 (pc := 196) dX6_turn_196 mlX6_87 (c_mIsCell K _ (up D (15, 2, 0) s (nI (q + 1))) x) (leb rfl) ?_
  refine RD.if_ne (pc := 199) 211 dX6_turn_199 (by decide) (fun c199 => absurd (bIout hX) c199) (fun c199 => ?_)
  refine RD.aload_n (pc := 202) dX6_turn_202 rfl ?_
  refine RD.iload_n (pc := 203) dX6_turn_203 rfl ?_
  refine RD.iconst (pc := 204) (v := 2) dX6_turn_204 (by decide) ?_
  refine RD.cV2v (pc := 205) dX6_turn_205 mlX6_90 rfl ok14 rfl (c_traps K _ (s := s) (by omega) (up D (15, 2, 0) s (nI (q + 1))) 2) (leb rfl) ?_
  refine RD.goto (pc := 208) 225 dX6_turn_208 (by decide) ?_
  refine RD.ret (pc := 225) ⟨rfl, dX6_turn_225⟩ ?_
  exact ⟨rfl, rfl⟩

set_option maxRecDepth 20000 in
set_option maxHeartbeats 1000000 in
theorem m_turnW (K : EK) (d : Nat) {s : Nat} (hs : s < 8) (D : DT) {q : Nat} {op x : Int32} (h : D (15, 3, 0) s = 1) (hq : q < 128) (hpl : D (15, 2, 0) s = nI q) (hop : ((D (15, 0, 0) (128 * s + q)) - (D (15, 0, 0) (128 * s + q)) / 32 * 32) + 32 - (((D (15, 0, 0) (128 * s + q)) - (D (15, 0, 0) (128 * s + q)) / 32 * 32) + 32) / 32 * 32 = op) (hx : D (15, 0, 0) (128 * s + q) >>> ((5 : Int32) &&& 31) = x) {y : Nat} {D2 : DT} (h0 : ¬ op = 0) (h3 : ¬ op = 3) (h13 : op < 13) (hy : y < 128) (hxy : x = nI y) (hc : CF K mX6_works (d + 1) [rR (14, 0, 0), rI (nI s), rI op, rI (nI (128 * s + y))] (up D (15, 2, 0) s (nI (q + 1))) none D2) : CF K mX6_turn (d + 2) [rR (14, 0, 0), rI (nI s)] D (none) D2 := by
  refine CF.of [some (rR (14, 0, 0)), some (rI (nI s)), none, none, none] (by decide) (leb rfl) rfl ?_
  refine RD.aload_n (pc := 0) dX6_turn_0 rfl ?_
  refine RD.getR (pc := 1) dX6_turn_1 flX6_19 ok14 rfl rfl ?_
  refine RD.iload_n (pc := 4) dX6_turn_4 rfl ?_
  refine RD.iL (pc := 5) (n := 8) s (v := D (15, 3, 0) s) rfl dX6_turn_5 (ok15 (by decide)) rfl rfl hs (by decide) ?_
  refine RD.iconst (pc := 6) (v := 1) dX6_turn_6 (by decide) ?_
  refine RD.icmp_eq (pc := 7) 11 dX6_turn_7 (by decide) (fun c7 => ?_) (fun c7 => absurd h c7)
  refine RD.aload_n (pc := 11) dX6_turn_11 rfl ?_
  refine RD.getR (pc := 12) dX6_turn_12 flX6_16 ok14 rfl rfl ?_
  refine RD.iload_n (pc := 15) dX6_turn_15 rfl ?_
  refine RD.iL (pc := 16) (n := 8) s (v := nI q) hpl dX6_turn_16 (ok15 (by decide)) rfl rfl hs (by decide) ?_
  refine RD.cS1 (pc := 17) dX6_turn_17 mlX6_87 (c_mIsCell K _ D (nI q)) (leb rfl) ?_
  refine RD.if_ne (pc := 20) 30 dX6_turn_20 (by decide) (fun c20 => ?_) (fun c20 => absurd c20 (bIin (by decide) hq))
  refine RD.aload_n (pc := 30) dX6_turn_30 rfl ?_
  refine RD.getR (pc := 31) dX6_turn_31 flX6_9 ok14 rfl rfl ?_
  refine RD.sipush (pc := 34) (v := 128) dX6_turn_34 (by decide) ?_
  refine RD.iload_n (pc := 37) dX6_turn_37 rfl ?_
  refine RD.imul (pc := 38) dX6_turn_38 ?_
  refine RD.eqI (pk_mul 128 s) ?_
  refine RD.aload_n (pc := 39) dX6_turn_39 rfl ?_
  refine RD.getR (pc := 40) dX6_turn_40 flX6_16 ok14 rfl rfl ?_
  refine RD.iload_n (pc := 43) dX6_turn_43 rfl ?_
  refine RD.iL (pc := 44) (n := 8) s (v := nI q) hpl dX6_turn_44 (ok15 (by decide)) rfl rfl hs (by decide) ?_
  refine RD.iadd (pc := 45) dX6_turn_45 ?_
  refine RD.eqI (nI_add (128 * s) q) ?_
  refine RD.iL (pc := 46) (n := 1024) ((128 * s) + q) (v := D (15, 0, 0) ((128 * s) + q)) rfl dX6_turn_46 (ok15 (by decide)) rfl rfl (by omega) (by decide) ?_
  refine RD.istore_n (pc := 47) (ls' := [some (rR (14, 0, 0)), some (rI (nI s)), some (rI (D (15, 0, 0) ((128 * s) + q))), none, none]) dX6_turn_47 (by decide) rfl ?_
  refine RD.iload_n (pc := 48) dX6_turn_48 rfl ?_
  refine RD.bipush (pc := 49) (v := 32) dX6_turn_49 (by decide) ?_
  refine RD.irem (pc := 51) dX6_turn_51 (by decide) ?_
  refine RD.bipush (pc := 52) (v := 32) dX6_turn_52 (by decide) ?_
  refine RD.iadd (pc := 54) dX6_turn_54 ?_
  refine RD.bipush (pc := 55) (v := 32) dX6_turn_55 (by decide) ?_
  refine RD.irem (pc := 57) dX6_turn_57 (by decide) ?_
  refine RD.eqI hop ?_
  refine RD.istore_n (pc := 58) (ls' := [some (rR (14, 0, 0)), some (rI (nI s)), some (rI (D (15, 0, 0) ((128 * s) + q))), some (rI op), none]) dX6_turn_58 (by decide) rfl ?_
  refine RD.iload_n (pc := 59) dX6_turn_59 rfl ?_
  refine RD.iconst (pc := 60) (v := 5) dX6_turn_60 (by decide) ?_
  refine RD.ishr (pc := 61) dX6_turn_61 ?_
  refine RD.eqI hx ?_
  refine RD.istore (pc := 62) (ls' := [some (rR (14, 0, 0)), some (rI (nI s)), some (rI (D (15, 0, 0) ((128 * s) + q))), some (rI op), some (rI x)]) dX6_turn_62 (by decide) rfl ?_
  refine RD.aload_n (pc := 64) dX6_turn_64 rfl ?_
  refine RD.getR (pc := 65) dX6_turn_65 flX6_16 ok14 rfl rfl ?_
  refine RD.iload_n (pc := 68) dX6_turn_68 rfl ?_
  refine RD.dup2 (pc := 69) dX6_turn_69 ?_
  refine RD.iL (pc := 70) (n := 8) s (v := nI q) hpl dX6_turn_70 (ok15 (by decide)) rfl rfl hs (by decide) ?_
  refine RD.iconst (pc := 71) (v := 1) dX6_turn_71 (by decide) ?_
  refine RD.iadd (pc := 72) dX6_turn_72 ?_
  refine RD.eqI (nI_add q 1) ?_
  refine RD.iast (pc := 73) (n := 8) s dX6_turn_73 (ok15 (by decide)) rfl rfl hs (by decide) ?_
  refine RD.iload_n (pc := 74) dX6_turn_74 rfl ?_
  refine RD.if_ne (pc := 75) 88 dX6_turn_75 (by decide) (fun c75 => ?_) (fun c75 => absurd c75 h0)
  refine RD.iload_n (pc := 88) dX6_turn_88 rfl ?_
  refine RD.iconst (pc := 89) (v := 3) dX6_turn_89 (by decide) ?_
  refine RD.icmp_ne (pc := 90) 104 dX6_turn_90 (by decide) (fun c90 => ?_) (fun c90 => absurd c90 h3)
  refine RD.iload_n (pc := 104) dX6_turn_104 rfl ?_
  refine RD.bipush (pc := 105) (v := 13) dX6_turn_105 (by decide) ?_
  refine RD.icmp_lt (pc := 107) 163 dX6_turn_107 (by decide) (fun c107 => ?_) (fun c107 => absurd h13 c107)
  refine RD.iload_n (pc := 163) dX6_turn_163 rfl ?_
  refine RD.bipush (pc := 164) (v := 16) dX6_turn_164 (by decide) ?_
  refine RD.icmp_ne (pc := 166) 179 dX6_turn_166 (by decide) (fun c166 => ?_) (fun c166 => absurd c166 (fun e => by rw [e] at h13; revert h13; decide))
  refine RD.iload_n (pc := 179) dX6_turn_179 rfl ?_
  refine RD.bipush (pc := 180) (v := 16) dX6_turn_180 (by decide) ?_
  refine RD.icmp_le (pc := 182) 194 dX6_turn_182 (by decide) (fun c182 => ?_) (fun c182 => absurd (Int32.le_of_lt (Int32.lt_trans h13 (by decide))) c182)
  refine RD.iload (pc := 194) dX6_turn_194 rfl ?_
  refine RD.cS1 (pc := 196) dX6_turn_196 mlX6_87 (c_mIsCell K _ (up D (15, 2, 0) s (nI (q + 1))) x) (leb rfl) ?_
  refine RD.if_ne (pc := 199) 211 dX6_turn_199 (by decide) (fun c199 => ?_) (fun c199 => absurd c199 (by rw [hxy]; exact bIin (by decide) hy))
  refine RD.aload_n (pc := 211) dX6_turn_211 rfl ?_
  refine RD.iload_n (pc := 212) dX6_turn_212 rfl ?_
  refine RD.iload_n (pc := 213) dX6_turn_213 rfl ?_
  refine RD.sipush (pc := 214) (v := 128) dX6_turn_214 (by decide) ?_
  refine RD.iload_n (pc := 217) dX6_turn_217 rfl ?_
  refine RD.imul (pc := 218) dX6_turn_218 ?_
  refine RD.eqI (pk_mul 128 s) ?_
  refine RD.iload (pc := 219) dX6_turn_219 rfl ?_
  refine RD.iadd (pc := 221) dX6_turn_221 ?_
  refine RD.cV3v (pc := 222) dX6_turn_222 mlX6_96 rfl ok14 rfl (by rw [hxy, nI_add]; exact hc) (leb rfl) ?_
  refine RD.ret (pc := 225) ⟨rfl, dX6_turn_225⟩ ?_
  exact ⟨rfl, rfl⟩
