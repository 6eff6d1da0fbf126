/-! the law's loop -/
section Lop
variable {sc : SC} {d : Nat}
/-- both hold the same, whatever that is -/
def BX (Y : XT) : Prop := ∃ c bs nn lp lt, BI Y c bs nn lp lt
theorem an31 (x : Int32) : ∃ j, j < 32 ∧ x &&& 31 = nI j := by
  refine ⟨(x &&& 31).toBitVec.toNat, ?_, ?_⟩
  · rw [Int32.toBitVec_and, BitVec.toNat_and]
    have h1 : x.toBitVec.toNat &&& (31 : Int32).toBitVec.toNat ≤ (31 : Int32).toBitVec.toNat := Nat.and_le_right
    have h2 : (31 : Int32).toBitVec.toNat = 31 := rfl
    omega
  · apply Int32.toBitVec_inj.mp
    show (x &&& 31).toBitVec = BitVec.ofNat 32 _
    rw [BitVec.ofNat_toNat, BitVec.setWidth_eq]
theorem cs_all {Y : XT} (h : BX Y) {q : Nat} (hq : 5 * q + 5 ≤ sc.1) (hL : sc.1 ≤ 2560) {j : Nat} (hj : j < 32) : CS sc d (tsw.getD j (tsw.getD 26 0)) Y (nI (5 * q)) := by
  obtain ⟨c, bs, nn, lp, lt, h⟩ := h
  have v1 : vp_in (nI (5 * q) + 1) sc.1 := by
    rw [show nI (5 * q) + 1 = nI (5 * q + 1) from nI_ad (5 * q) 1]
    exact vp_in_nI (by omega) (by omega)
  have v2 : vp_in (nI (5 * q) + 2) sc.1 := by
    rw [show nI (5 * q) + 2 = nI (5 * q + 2) from nI_ad (5 * q) 2]
    exact vp_in_nI (by omega) (by omega)
  have v3 : vp_in (nI (5 * q) + 3) sc.1 := by
    rw [show nI (5 * q) + 3 = nI (5 * q + 3) from nI_ad (5 * q) 3]
    exact vp_in_nI (by omega) (by omega)
  have v4 : vp_in (nI (5 * q) + 4) sc.1 := by
    rw [show nI (5 * q) + 4 = nI (5 * q + 4) from nI_ad (5 * q) 4]
    exact vp_in_nI (by omega) (by omega)
  by_cases h26 : 26 ≤ j
  · have e : tsw.getD j (tsw.getD 26 0) = 226 := by
      by_cases e6 : j = 26
      · subst e6
        rfl
      · have h0 : tsw[j]? = none := List.getElem?_eq_none (by show 27 ≤ j; omega)
        rw [List.getD_eq_getElem?_getD, h0]
        rfl
    rw [e]
    intro z5 z6
    exact ⟨Y, 0, z5, z6, ⟨c, bs, nn, lp, lt, h⟩, by omega, fun o Z k2 hn => by rw [Nat.zero_add]; exact hn⟩
  · rcases (show j = 0 ∨ j = 1 ∨ j = 2 ∨ j = 3 ∨ j = 4 ∨ j = 5 ∨ j = 6 ∨ j = 7 ∨ j = 8 ∨ j = 9 ∨ j = 10 ∨ j = 11 ∨ j = 12 ∨ j = 13 ∨ j = 14 ∨ j = 15 ∨ j = 16 ∨ j = 17 ∨ j = 18 ∨ j = 19 ∨ j = 20 ∨ j = 21 ∨ j = 22 ∨ j = 23 ∨ j = 24 ∨ j = 25 by omega) with rfl | rfl | rfl | rfl | rfl | rfl | rfl | rfl | rfl | rfl | rfl | rfl | rfl | rfl | rfl | rfl | rfl | rfl | rfl | rfl | rfl | rfl | rfl | rfl | rfl | rfl
    · exact cs2 h v1
    · exact cs11 h v1 v2 v3 v4
    · exact cs20 h v1 v2
    · exact cs29 h v1 v2
    · exact cs38 h v1 v2
    · exact cs47 h v1 v2
    · exact cs56 h v1 v2
    · exact cs62 h
    · exact cs66 h
    · exact cs70 h v1
    · exact cs79 h v1
    · exact cs88 h v1
    · exact cs97 h v1
    · exact cs106 h v1
    · exact cs115 h v1
    · exact cs124 h v1 v2
    · exact cs133 h v1 v2
    · exact cs142 h v1
    · exact cs151 h v1
    · exact cs160 h v1
    · exact cs169 h v1
    · exact cs181 h v1
    · exact cs190 h v1
    · exact cs199 h v1
    · exact cs208 h v1
    · exact cs217 h v1
theorem law_run (hL : sc.1 ≤ 2560) : ∀ r q, q + r = sc.1 / 5 → ∀ (Y : XT) (z5 z6 : AV), BX Y → ∃ (Z : XT) (k : Nat), k ≤ r ∧ Ev sc (d + 40) 168 0 (lwL (vI (nI (5 * q))) z5 z6) [] Y (.inl (some (.inl 1))) Z k := by
  intro r
  have en : nI sc.1 - 5 = zI ((sc.1 : Int) - 5) := by rw [zI_n, show (5 : Int32) = zI 5 from rfl, ← Int32.ofInt_sub]
  induction r with
  | zero =>
    intro q hq Y z5 z6 h
    refine ⟨Y, 0, Nat.le_refl _, ?_⟩
    have hg : nI sc.1 - 5 < nI (5 * q) := by
      rw [en, zI_n, Int32.lt_iff_toInt_lt, Int32.toInt_ofInt_of_le (by omega) (by omega), Int32.toInt_ofInt_of_le (by omega) (by omega)]
      omega
    refine ev_seg rfl ?_
    simp only [TE, sxs, sx, ldI, ldA, stI, stA, inc, gtF, ptF, ldX, stX, ldR, ldL, stL, dp1, dp2, Tm, kS0, kS1, kS2, kS3, kS4, kS5, kS6, kS7, kS8, kS9, kS10, kS11, kS12, kS13, kS14, kS15, kS16, kS17, kS18, kS19, kS20, kS21, kS22, kS23, kS24, kS25, kS26, kS27, kS28, kS30, kS31, kS32, kS33, kS34, kS35, kS36, kS37, kS38, kS39, kS40, kS41, kS42, kS43, kS51, kS52, kS53, List.getElem?_cons_zero, List.getElem?_cons_succ, List.set_cons_zero, List.set_cons_succ, List.length_cons, List.length_nil, List.drop_succ_cons, List.drop_zero, List.cons_append, List.nil_append, Option.toList_some, Option.toList_none, cz, ci2, true_and, and_true, and_self, true_or, or_true, nI_1, Nat.reduceAdd, Nat.reduceLT, roN]
    refine ⟨fun _ => ?_, fun w => absurd hg w⟩
    refine ev_seg rfl ?_
    simp only [TE, sxs, sx, ldI, ldA, stI, stA, inc, gtF, ptF, ldX, stX, ldR, ldL, stL, dp1, dp2, Tm, kS0, kS1, kS2, kS3, kS4, kS5, kS6, kS7, kS8, kS9, kS10, kS11, kS12, kS13, kS14, kS15, kS16, kS17, kS18, kS19, kS20, kS21, kS22, kS23, kS24, kS25, kS26, kS27, kS28, kS30, kS31, kS32, kS33, kS34, kS35, kS36, kS37, kS38, kS39, kS40, kS41, kS42, kS43, kS51, kS52, kS53, List.getElem?_cons_zero, List.getElem?_cons_succ, List.set_cons_zero, List.set_cons_succ, List.length_cons, List.length_nil, List.drop_succ_cons, List.drop_zero, List.cons_append, List.nil_append, Option.toList_some, Option.toList_none, cz, ci2, true_and, and_true, and_self, true_or, or_true, nI_1, Nat.reduceAdd, Nat.reduceLT]
  | succ r ih =>
    intro q hq Y z5 z6 h
    have hq5 : 5 * q + 5 ≤ sc.1 := by omega
    have hg : ¬ nI sc.1 - 5 < nI (5 * q) := by
      rw [en, zI_n, Int32.lt_iff_toInt_lt, Int32.toInt_ofInt_of_le (by omega) (by omega), Int32.toInt_ofInt_of_le (by omega) (by omega)]
      omega
    obtain ⟨j, hj, ej⟩ := an31 (rd sc (nI (5 * q)))
    obtain ⟨Y', k1, y5, y6, hY, hk, hcs⟩ := cs_all (d := d) h hq5 hL hj z5 z6
    obtain ⟨Z, k, hkr, hz⟩ := ih (q + 1) (by omega) Y' y5 y6 hY
    have v0 : vp_in (nI (5 * q)) sc.1 := vp_in_nI (by omega) (by omega)
    have t226 : Ev sc (d + 40) 168 226 (lwL (vI (nI (5 * q))) y5 y6) [] Y' (.inl (some (.inl 1))) Z k := by
      refine ev_seg rfl ?_
      simp only [TE, sxs, sx, ldI, ldA, stI, stA, inc, gtF, ptF, ldX, stX, ldR, ldL, stL, dp1, dp2, Tm, kS0, kS1, kS2, kS3, kS4, kS5, kS6, kS7, kS8, kS9, kS10, kS11, kS12, kS13, kS14, kS15, kS16, kS17, kS18, kS19, kS20, kS21, kS22, kS23, kS24, kS25, kS26, kS27, kS28, kS30, kS31, kS32, kS33, kS34, kS35, kS36, kS37, kS38, kS39, kS40, kS41, kS42, kS43, kS51, kS52, kS53, List.getElem?_cons_zero, List.getElem?_cons_succ, List.set_cons_zero, List.set_cons_succ, List.length_cons, List.length_nil, List.drop_succ_cons, List.drop_zero, List.cons_append, List.nil_append, Option.toList_some, Option.toList_none, cz, ci2, true_and, and_true, and_self, true_or, or_true, nI_1, Nat.reduceAdd, Nat.reduceLT]
      rw [show nI (5 * q) + 5 = nI (5 * (q + 1)) from nI_ad (5 * q) 5]
      exact hz
    refine ⟨Z, k1 + k, by omega, ?_⟩
    have hc := hcs _ _ _ t226
    refine ev_seg rfl ?_
    simp only [TE, sxs, sx, ldI, ldA, stI, stA, inc, gtF, ptF, ldX, stX, ldR, ldL, stL, dp1, dp2, Tm, kS0, kS1, kS2, kS3, kS4, kS5, kS6, kS7, kS8, kS9, kS10, kS11, kS12, kS13, kS14, kS15, kS16, kS17, kS18, kS19, kS20, kS21, kS22, kS23, kS24, kS25, kS26, kS27, kS28, kS30, kS31, kS32, kS33, kS34, kS35, kS36, kS37, kS38, kS39, kS40, kS41, kS42, kS43, kS51, kS52, kS53, List.getElem?_cons_zero, List.getElem?_cons_succ, List.set_cons_zero, List.set_cons_succ, List.length_cons, List.length_nil, List.drop_succ_cons, List.drop_zero, List.cons_append, List.nil_append, Option.toList_some, Option.toList_none, cz, ci2, true_and, and_true, and_self, true_or, or_true, nI_1, Nat.reduceAdd, Nat.reduceLT, roN]
    refine ⟨fun w => absurd w hg, fun _ => ?_⟩
    refine ev_seg rfl ?_
    simp only [TE, sxs, sx, ldI, ldA, stI, stA, inc, gtF, ptF, ldX, stX, ldR, ldL, stL, dp1, dp2, Tm, kS0, kS1, kS2, kS3, kS4, kS5, kS6, kS7, kS8, kS9, kS10, kS11, kS12, kS13, kS14, kS15, kS16, kS17, kS18, kS19, kS20, kS21, kS22, kS23, kS24, kS25, kS26, kS27, kS28, kS30, kS31, kS32, kS33, kS34, kS35, kS36, kS37, kS38, kS39, kS40, kS41, kS42, kS43, kS51, kS52, kS53, List.getElem?_cons_zero, List.getElem?_cons_succ, List.set_cons_zero, List.set_cons_succ, List.length_cons, List.length_nil, List.drop_succ_cons, List.drop_zero, List.cons_append, List.nil_append, Option.toList_some, Option.toList_none, cz, ci2, true_and, and_true, and_self, true_or, or_true, nI_1, Nat.reduceAdd, Nat.reduceLT, roN, show roV sc 53 (nI (5 * q)).toNatClampNeg &&& 31 = nI j from ej]
    refine ⟨⟨by decide, v0⟩, nIle (a := 0) (Nat.zero_le _) (by omega), ?_⟩
    rw [nI_clamp (by omega)]
    exact hc
end Lop
