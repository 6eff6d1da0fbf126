/-! the outlook of a group -/
abbrev zI (z : Int) : Int32 := Int32.ofInt z
theorem zI_n (n : Nat) : nI n = zI n := (Int32.ofInt_eq_ofNat (n := n)).symm
theorem zI_le {a b : Int} (h1 : -2 ^ 31 ≤ a) (h2 : a < 2 ^ 31) (h3 : -2 ^ 31 ≤ b) (h4 : b < 2 ^ 31) : zI a ≤ zI b ↔ a ≤ b := by
  rw [Int32.le_iff_toInt_le, Int32.toInt_ofInt_of_le h1 h2, Int32.toInt_ofInt_of_le h3 h4]
theorem zI_lt {a b : Int} (h1 : -2 ^ 31 ≤ a) (h2 : a < 2 ^ 31) (h3 : -2 ^ 31 ≤ b) (h4 : b < 2 ^ 31) : zI a < zI b ↔ a < b := by
  rw [Int32.lt_iff_toInt_lt, Int32.toInt_ofInt_of_le h1 h2, Int32.toInt_ofInt_of_le h3 h4]
theorem zI_inj {a b : Int} (h1 : -2 ^ 31 ≤ a) (h2 : a < 2 ^ 31) (h3 : -2 ^ 31 ≤ b) (h4 : b < 2 ^ 31) : zI a = zI b ↔ a = b := by
  rw [← Int32.toInt_inj, Int32.toInt_ofInt_of_le h1 h2, Int32.toInt_ofInt_of_le h3 h4]
section Otl
variable {sc : SC} {d : Nat} {g : Int32} {X : XT}
/-- what the outlook holds -/
def OL (X : XT) (n w pl mg : Nat) (γ δ : Nat → Int) : Prop := X.1 19 0 0 3 = nI n ∧ X.1 19 0 0 4 = nI w ∧ X.1 19 0 0 5 = nI pl ∧ X.1 19 0 0 6 = nI mg ∧ (∀ i, i < n → X.1 23 0 0 (nI i) = zI (γ i)) ∧ ∀ i, i < n → X.1 24 0 0 (nI i) = zI (δ i)
/-- bounds -/
def bd (n : Nat) (b : Int) (γ : Nat → Int) : Prop := ∀ i, i < n → -b ≤ γ i ∧ γ i ≤ b
theorem s_isPassed {n w pl mg : Nat} {γ δ : Nat → Int} (hO : OL X n w pl mg γ δ) (hn : n ≤ 5) (hw : w < n) (hm : mg ≤ 1) (hp : pl ≤ 2) (hg : bd n 10000 γ) (hd : bd n 10000 δ) :
    Ev sc d 39 0 (ent 39 [vR 19 0 0]) [] X (.inl (some (.inl (bI (pl ≤ ct (fun s => decide (s ≠ w) && decide (γ w + 3 * δ w + mg ≤ γ s)) n))))) X 0 := by
  obtain ⟨o1, o2, o3, o4, o5, o6⟩ := hO
  have vw : vp_in (nI w) 5 := vpn (by omega) (by decide)
  have ebar : zI (γ w) + 3 * zI (δ w) + nI mg = zI (γ w + 3 * δ w + mg) := by
    rw [zI_n, show (3 : Int32) = zI 3 from rfl, ← Int32.ofInt_mul, ← Int32.ofInt_add, ← Int32.ofInt_add]
  have fin : Ev sc d 39 6 [vR 19 0 0, vI (zI (γ w + 3 * δ w + mg)), vI (nI (ct (fun s => decide (s ≠ w) && decide (γ w + 3 * δ w + mg ≤ γ s)) n)), vI (nI n)] [] X (.inl (some (.inl (bI (pl ≤ ct (fun s => decide (s ≠ w) && decide (γ w + 3 * δ w + mg ≤ γ s)) n))))) X 0 := by
    have hle := ct_le (fun s => decide (s ≠ w) && decide (γ w + 3 * δ w + mg ≤ γ s)) n
    by_cases hc : pl ≤ ct (fun s => decide (s ≠ w) && decide (γ w + 3 * δ w + mg ≤ γ s)) n
    · rw [bI_t hc]
      refine ev_seg rfl ?_
      simp only [TE, sxs, sx, ldI, ldA, stI, stA, inc, gtF, ptF, ldX, stX, ldR, ldL, stL, dp1, dp2, Tm, kS0, kS1, kS2, kS3, kS4, kS5, kS6, kS7, kS8, kS9, kS10, kS11, kS12, kS13, kS14, kS15, kS16, kS17, kS18, kS19, kS20, kS21, kS22, kS23, kS24, kS25, kS26, kS27, kS28, kS30, kS31, kS32, kS33, kS34, kS35, kS36, kS37, kS38, kS39, kS40, kS41, kS42, kS43, kS51, kS52, kS53, List.getElem?_cons_zero, List.getElem?_cons_succ, List.set_cons_zero, List.set_cons_succ, List.length_cons, List.length_nil, List.drop_succ_cons, List.drop_zero, List.cons_append, List.nil_append, Option.toList_some, Option.toList_none, cz, ci2, true_and, and_true, and_self, true_or, or_true, nI_1, Nat.reduceAdd, Nat.reduceLT, o3]
      refine ⟨fun h => absurd h (i_nlt (nleI hc (by omega))), fun _ => ?_⟩
      refine ev_seg rfl ?_
      simp only [TE, sxs, sx, ldI, ldA, stI, stA, inc, gtF, ptF, ldX, stX, ldR, ldL, stL, dp1, dp2, Tm, kS0, kS1, kS2, kS3, kS4, kS5, kS6, kS7, kS8, kS9, kS10, kS11, kS12, kS13, kS14, kS15, kS16, kS17, kS18, kS19, kS20, kS21, kS22, kS23, kS24, kS25, kS26, kS27, kS28, kS30, kS31, kS32, kS33, kS34, kS35, kS36, kS37, kS38, kS39, kS40, kS41, kS42, kS43, kS51, kS52, kS53, List.getElem?_cons_zero, List.getElem?_cons_succ, List.set_cons_zero, List.set_cons_succ, List.length_cons, List.length_nil, List.drop_succ_cons, List.drop_zero, List.cons_append, List.nil_append, Option.toList_some, Option.toList_none, cz, ci2, true_and, and_true, and_self, true_or, or_true, nI_1, Nat.reduceAdd, Nat.reduceLT]
      refine ev_seg rfl ?_
      simp only [TE, sxs, sx, ldI, ldA, stI, stA, inc, gtF, ptF, ldX, stX, ldR, ldL, stL, dp1, dp2, Tm, kS0, kS1, kS2, kS3, kS4, kS5, kS6, kS7, kS8, kS9, kS10, kS11, kS12, kS13, kS14, kS15, kS16, kS17, kS18, kS19, kS20, kS21, kS22, kS23, kS24, kS25, kS26, kS27, kS28, kS30, kS31, kS32, kS33, kS34, kS35, kS36, kS37, kS38, kS39, kS40, kS41, kS42, kS43, kS51, kS52, kS53, List.getElem?_cons_zero, List.getElem?_cons_succ, List.set_cons_zero, List.set_cons_succ, List.length_cons, List.length_nil, List.drop_succ_cons, List.drop_zero, List.cons_append, List.nil_append, Option.toList_some, Option.toList_none, cz, ci2, true_and, and_true, and_self, true_or, or_true, nI_1, Nat.reduceAdd, Nat.reduceLT]
    · rw [bI_f hc]
      refine ev_seg rfl ?_
      simp only [TE, sxs, sx, ldI, ldA, stI, stA, inc, gtF, ptF, ldX, stX, ldR, ldL, stL, dp1, dp2, Tm, kS0, kS1, kS2, kS3, kS4, kS5, kS6, kS7, kS8, kS9, kS10, kS11, kS12, kS13, kS14, kS15, kS16, kS17, kS18, kS19, kS20, kS21, kS22, kS23, kS24, kS25, kS26, kS27, kS28, kS30, kS31, kS32, kS33, kS34, kS35, kS36, kS37, kS38, kS39, kS40, kS41, kS42, kS43, kS51, kS52, kS53, List.getElem?_cons_zero, List.getElem?_cons_succ, List.set_cons_zero, List.set_cons_succ, List.length_cons, List.length_nil, List.drop_succ_cons, List.drop_zero, List.cons_append, List.nil_append, Option.toList_some, Option.toList_none, cz, ci2, true_and, and_true, and_self, true_or, or_true, nI_1, Nat.reduceAdd, Nat.reduceLT, o3]
      refine ⟨fun _ => ?_, fun h => absurd (nI_lt (by omega) (by omega)) h⟩
      refine ev_seg rfl ?_
      simp only [TE, sxs, sx, ldI, ldA, stI, stA, inc, gtF, ptF, ldX, stX, ldR, ldL, stL, dp1, dp2, Tm, kS0, kS1, kS2, kS3, kS4, kS5, kS6, kS7, kS8, kS9, kS10, kS11, kS12, kS13, kS14, kS15, kS16, kS17, kS18, kS19, kS20, kS21, kS22, kS23, kS24, kS25, kS26, kS27, kS28, kS30, kS31, kS32, kS33, kS34, kS35, kS36, kS37, kS38, kS39, kS40, kS41, kS42, kS43, kS51, kS52, kS53, List.getElem?_cons_zero, List.getElem?_cons_succ, List.set_cons_zero, List.set_cons_succ, List.length_cons, List.length_nil, List.drop_succ_cons, List.drop_zero, List.cons_append, List.nil_append, Option.toList_some, Option.toList_none, cz, ci2, true_and, and_true, and_self, true_or, or_true, nI_1, Nat.reduceAdd, Nat.reduceLT]
      refine ev_seg rfl ?_
      simp only [TE, sxs, sx, ldI, ldA, stI, stA, inc, gtF, ptF, ldX, stX, ldR, ldL, stL, dp1, dp2, Tm, kS0, kS1, kS2, kS3, kS4, kS5, kS6, kS7, kS8, kS9, kS10, kS11, kS12, kS13, kS14, kS15, kS16, kS17, kS18, kS19, kS20, kS21, kS22, kS23, kS24, kS25, kS26, kS27, kS28, kS30, kS31, kS32, kS33, kS34, kS35, kS36, kS37, kS38, kS39, kS40, kS41, kS42, kS43, kS51, kS52, kS53, List.getElem?_cons_zero, List.getElem?_cons_succ, List.set_cons_zero, List.set_cons_succ, List.length_cons, List.length_nil, List.drop_succ_cons, List.drop_zero, List.cons_append, List.nil_append, Option.toList_some, Option.toList_none, cz, ci2, true_and, and_true, and_self, true_or, or_true, nI_1, Nat.reduceAdd, Nat.reduceLT]
  have loop : ∀ p, p ≤ n → Ev sc d 39 1 [vR 19 0 0, vI (zI (γ w + 3 * δ w + mg)), vI (nI (ct (fun s => decide (s ≠ w) && decide (γ w + 3 * δ w + mg ≤ γ s)) p)), vI (nI p)] [] X (.inl (some (.inl (bI (pl ≤ ct (fun s => decide (s ≠ w) && decide (γ w + 3 * δ w + mg ≤ γ s)) n))))) X 0 := by
    apply loop_up
    · refine ev_seg rfl ?_
      simp only [TE, sxs, sx, ldI, ldA, stI, stA, inc, gtF, ptF, ldX, stX, ldR, ldL, stL, dp1, dp2, Tm, kS0, kS1, kS2, kS3, kS4, kS5, kS6, kS7, kS8, kS9, kS10, kS11, kS12, kS13, kS14, kS15, kS16, kS17, kS18, kS19, kS20, kS21, kS22, kS23, kS24, kS25, kS26, kS27, kS28, kS30, kS31, kS32, kS33, kS34, kS35, kS36, kS37, kS38, kS39, kS40, kS41, kS42, kS43, kS51, kS52, kS53, List.getElem?_cons_zero, List.getElem?_cons_succ, List.set_cons_zero, List.set_cons_succ, List.length_cons, List.length_nil, List.drop_succ_cons, List.drop_zero, List.cons_append, List.nil_append, Option.toList_some, Option.toList_none, cz, ci2, true_and, and_true, and_self, true_or, or_true, nI_1, Nat.reduceAdd, Nat.reduceLT, o1]
      refine ⟨fun _ => fin, fun h => absurd (nleI (Nat.le_refl _) (by omega)) h⟩
    · intro p hp ih
      have vp : vp_in (nI p) 5 := vpn (by omega) (by decide)
      have g1 := hg w hw
      have g2 := hg p hp
      have g3 := hd w hw
      have back : ∀ c, ct (fun s => decide (s ≠ w) && decide (γ w + 3 * δ w + mg ≤ γ s)) (p + 1) = c → Ev sc d 39 5 [vR 19 0 0, vI (zI (γ w + 3 * δ w + mg)), vI (nI c), vI (nI p)] [] X (.inl (some (.inl (bI (pl ≤ ct (fun s => decide (s ≠ w) && decide (γ w + 3 * δ w + mg ≤ γ s)) n))))) X 0 := by
        intro c hc
        rw [hc] at ih
        refine ev_seg rfl ?_
        simp only [TE, sxs, sx, ldI, ldA, stI, stA, inc, gtF, ptF, ldX, stX, ldR, ldL, stL, dp1, dp2, Tm, kS0, kS1, kS2, kS3, kS4, kS5, kS6, kS7, kS8, kS9, kS10, kS11, kS12, kS13, kS14, kS15, kS16, kS17, kS18, kS19, kS20, kS21, kS22, kS23, kS24, kS25, kS26, kS27, kS28, kS30, kS31, kS32, kS33, kS34, kS35, kS36, kS37, kS38, kS39, kS40, kS41, kS42, kS43, kS51, kS52, kS53, List.getElem?_cons_zero, List.getElem?_cons_succ, List.set_cons_zero, List.set_cons_succ, List.length_cons, List.length_nil, List.drop_succ_cons, List.drop_zero, List.cons_append, List.nil_append, Option.toList_some, Option.toList_none, cz, ci2, true_and, and_true, and_self, true_or, or_true, nI_1, Nat.reduceAdd, Nat.reduceLT]
        exact ih
      refine ev_seg rfl ?_
      simp only [TE, sxs, sx, ldI, ldA, stI, stA, inc, gtF, ptF, ldX, stX, ldR, ldL, stL, dp1, dp2, Tm, kS0, kS1, kS2, kS3, kS4, kS5, kS6, kS7, kS8, kS9, kS10, kS11, kS12, kS13, kS14, kS15, kS16, kS17, kS18, kS19, kS20, kS21, kS22, kS23, kS24, kS25, kS26, kS27, kS28, kS30, kS31, kS32, kS33, kS34, kS35, kS36, kS37, kS38, kS39, kS40, kS41, kS42, kS43, kS51, kS52, kS53, List.getElem?_cons_zero, List.getElem?_cons_succ, List.set_cons_zero, List.set_cons_succ, List.length_cons, List.length_nil, List.drop_succ_cons, List.drop_zero, List.cons_append, List.nil_append, Option.toList_some, Option.toList_none, cz, ci2, true_and, and_true, and_self, true_or, or_true, nI_1, Nat.reduceAdd, Nat.reduceLT, o1]
      refine ⟨fun h => absurd h (nle hp (by omega)), fun _ => ?_⟩
      refine ev_seg rfl ?_
      simp only [TE, sxs, sx, ldI, ldA, stI, stA, inc, gtF, ptF, ldX, stX, ldR, ldL, stL, dp1, dp2, Tm, kS0, kS1, kS2, kS3, kS4, kS5, kS6, kS7, kS8, kS9, kS10, kS11, kS12, kS13, kS14, kS15, kS16, kS17, kS18, kS19, kS20, kS21, kS22, kS23, kS24, kS25, kS26, kS27, kS28, kS30, kS31, kS32, kS33, kS34, kS35, kS36, kS37, kS38, kS39, kS40, kS41, kS42, kS43, kS51, kS52, kS53, List.getElem?_cons_zero, List.getElem?_cons_succ, List.set_cons_zero, List.set_cons_succ, List.length_cons, List.length_nil, List.drop_succ_cons, List.drop_zero, List.cons_append, List.nil_append, Option.toList_some, Option.toList_none, cz, ci2, true_and, and_true, and_self, true_or, or_true, nI_1, Nat.reduceAdd, Nat.reduceLT, o2]
      refine ⟨fun h => ?_, fun h => ?_⟩
      · have hpw : p = w := nI_inj (by omega) (by omega) h
        refine back _ ?_
        show ct _ p + (if (decide (p ≠ w) && decide (γ w + 3 * δ w + mg ≤ γ p)) = true then 1 else 0) = _
        rw [if_neg (by simp [hpw]), Nat.add_zero]
      · have hpw : p ≠ w := fun e => h (by rw [e])
        refine ev_seg rfl ?_
        simp only [TE, sxs, sx, ldI, ldA, stI, stA, inc, gtF, ptF, ldX, stX, ldR, ldL, stL, dp1, dp2, Tm, kS0, kS1, kS2, kS3, kS4, kS5, kS6, kS7, kS8, kS9, kS10, kS11, kS12, kS13, kS14, kS15, kS16, kS17, kS18, kS19, kS20, kS21, kS22, kS23, kS24, kS25, kS26, kS27, kS28, kS30, kS31, kS32, kS33, kS34, kS35, kS36, kS37, kS38, kS39, kS40, kS41, kS42, kS43, kS51, kS52, kS53, List.getElem?_cons_zero, List.getElem?_cons_succ, List.set_cons_zero, List.set_cons_succ, List.length_cons, List.length_nil, List.drop_succ_cons, List.drop_zero, List.cons_append, List.nil_append, Option.toList_some, Option.toList_none, cz, ci2, true_and, and_true, and_self, true_or, or_true, nI_1, Nat.reduceAdd, Nat.reduceLT, o5 p hp]
        refine ⟨(by first | assumption | (and_intros <;> first | assumption | trivial | decide)), fun h => ?_, fun h => ?_⟩
        · rw [zI_lt (by omega) (by omega) (by omega) (by omega)] at h
          refine back _ ?_
          show ct _ p + (if (decide (p ≠ w) && decide (γ w + 3 * δ w + mg ≤ γ p)) = true then 1 else 0) = _
          rw [if_neg (by simp [hpw]; omega), Nat.add_zero]
        · rw [zI_lt (by omega) (by omega) (by omega) (by omega)] at h
          refine ev_seg rfl ?_
          simp only [TE, sxs, sx, ldI, ldA, stI, stA, inc, gtF, ptF, ldX, stX, ldR, ldL, stL, dp1, dp2, Tm, kS0, kS1, kS2, kS3, kS4, kS5, kS6, kS7, kS8, kS9, kS10, kS11, kS12, kS13, kS14, kS15, kS16, kS17, kS18, kS19, kS20, kS21, kS22, kS23, kS24, kS25, kS26, kS27, kS28, kS30, kS31, kS32, kS33, kS34, kS35, kS36, kS37, kS38, kS39, kS40, kS41, kS42, kS43, kS51, kS52, kS53, List.getElem?_cons_zero, List.getElem?_cons_succ, List.set_cons_zero, List.set_cons_succ, List.length_cons, List.length_nil, List.drop_succ_cons, List.drop_zero, List.cons_append, List.nil_append, Option.toList_some, Option.toList_none, cz, ci2, true_and, and_true, and_self, true_or, or_true, nI_1, Nat.reduceAdd, Nat.reduceLT]
          refine back _ ?_
          show ct _ p + (if (decide (p ≠ w) && decide (γ w + 3 * δ w + mg ≤ γ p)) = true then 1 else 0) = _
          rw [if_pos (by simp [hpw]; omega)]
  rw [en39]
  refine ev_seg rfl ?_
  simp only [TE, sxs, sx, ldI, ldA, stI, stA, inc, gtF, ptF, ldX, stX, ldR, ldL, stL, dp1, dp2, Tm, kS0, kS1, kS2, kS3, kS4, kS5, kS6, kS7, kS8, kS9, kS10, kS11, kS12, kS13, kS14, kS15, kS16, kS17, kS18, kS19, kS20, kS21, kS22, kS23, kS24, kS25, kS26, kS27, kS28, kS30, kS31, kS32, kS33, kS34, kS35, kS36, kS37, kS38, kS39, kS40, kS41, kS42, kS43, kS51, kS52, kS53, List.getElem?_cons_zero, List.getElem?_cons_succ, List.set_cons_zero, List.set_cons_succ, List.length_cons, List.length_nil, List.drop_succ_cons, List.drop_zero, List.cons_append, List.nil_append, Option.toList_some, Option.toList_none, cz, ci2, true_and, and_true, and_self, true_or, or_true, nI_1, Nat.reduceAdd, Nat.reduceLT, o2, o4, o5 w hw, o6 w hw, ebar]
  exact ⟨(by first | assumption | (and_intros <;> first | assumption | trivial | decide)), loop 0 (Nat.zero_le _)⟩
theorem s_canPass {n w pl mg : Nat} {γ δ : Nat → Int} (hO : OL X n w pl mg γ δ) (hn : n ≤ 5) (hw : w < n) (hm : mg ≤ 1) (hp : pl ≤ 2) (hg : bd n 10000 γ) (hd : bd n 10000 δ) :
    Ev sc d 40 0 (ent 40 [vR 19 0 0]) [] X (.inl (some (.inl (bI (pl ≤ ct (fun s => decide (s ≠ w) && decide (γ w + mg ≤ γ s + 3 * δ s)) n))))) X 0 := by
  obtain ⟨o1, o2, o3, o4, o5, o6⟩ := hO
  have vw : vp_in (nI w) 5 := vpn (by omega) (by decide)
  have ebar : zI (γ w) + nI mg = zI (γ w + mg) := by
    rw [zI_n, ← Int32.ofInt_add]
  have fin : Ev sc d 40 6 [vR 19 0 0, vI (zI (γ w + mg)), vI (nI (ct (fun s => decide (s ≠ w) && decide (γ w + mg ≤ γ s + 3 * δ s)) n)), vI (nI n)] [] X (.inl (some (.inl (bI (pl ≤ ct (fun s => decide (s ≠ w) && decide (γ w + mg ≤ γ s + 3 * δ s)) n))))) X 0 := by
    have hle := ct_le (fun s => decide (s ≠ w) && decide (γ w + mg ≤ γ s + 3 * δ s)) n
    by_cases hc : pl ≤ ct (fun s => decide (s ≠ w) && decide (γ w + mg ≤ γ s + 3 * δ s)) n
    · rw [bI_t hc]
      refine ev_seg rfl ?_
      simp only [TE, sxs, sx, ldI, ldA, stI, stA, inc, gtF, ptF, ldX, stX, ldR, ldL, stL, dp1, dp2, Tm, kS0, kS1, kS2, kS3, kS4, kS5, kS6, kS7, kS8, kS9, kS10, kS11, kS12, kS13, kS14, kS15, kS16, kS17, kS18, kS19, kS20, kS21, kS22, kS23, kS24, kS25, kS26, kS27, kS28, kS30, kS31, kS32, kS33, kS34, kS35, kS36, kS37, kS38, kS39, kS40, kS41, kS42, kS43, kS51, kS52, kS53, List.getElem?_cons_zero, List.getElem?_cons_succ, List.set_cons_zero, List.set_cons_succ, List.length_cons, List.length_nil, List.drop_succ_cons, List.drop_zero, List.cons_append, List.nil_append, Option.toList_some, Option.toList_none, cz, ci2, true_and, and_true, and_self, true_or, or_true, nI_1, Nat.reduceAdd, Nat.reduceLT, o3]
      refine ⟨fun h => absurd h (i_nlt (nleI hc (by omega))), fun _ => ?_⟩
      refine ev_seg rfl ?_
      simp only [TE, sxs, sx, ldI, ldA, stI, stA, inc, gtF, ptF, ldX, stX, ldR, ldL, stL, dp1, dp2, Tm, kS0, kS1, kS2, kS3, kS4, kS5, kS6, kS7, kS8, kS9, kS10, kS11, kS12, kS13, kS14, kS15, kS16, kS17, kS18, kS19, kS20, kS21, kS22, kS23, kS24, kS25, kS26, kS27, kS28, kS30, kS31, kS32, kS33, kS34, kS35, kS36, kS37, kS38, kS39, kS40, kS41, kS42, kS43, kS51, kS52, kS53, List.getElem?_cons_zero, List.getElem?_cons_succ, List.set_cons_zero, List.set_cons_succ, List.length_cons, List.length_nil, List.drop_succ_cons, List.drop_zero, List.cons_append, List.nil_append, Option.toList_some, Option.toList_none, cz, ci2, true_and, and_true, and_self, true_or, or_true, nI_1, Nat.reduceAdd, Nat.reduceLT]
      refine ev_seg rfl ?_
      simp only [TE, sxs, sx, ldI, ldA, stI, stA, inc, gtF, ptF, ldX, stX, ldR, ldL, stL, dp1, dp2, Tm, kS0, kS1, kS2, kS3, kS4, kS5, kS6, kS7, kS8, kS9, kS10, kS11, kS12, kS13, kS14, kS15, kS16, kS17, kS18, kS19, kS20, kS21, kS22, kS23, kS24, kS25, kS26, kS27, kS28, kS30, kS31, kS32, kS33, kS34, kS35, kS36, kS37, kS38, kS39, kS40, kS41, kS42, kS43, kS51, kS52, kS53, List.getElem?_cons_zero, List.getElem?_cons_succ, List.set_cons_zero, List.set_cons_succ, List.length_cons, List.length_nil, List.drop_succ_cons, List.drop_zero, List.cons_append, List.nil_append, Option.toList_some, Option.toList_none, cz, ci2, true_and, and_true, and_self, true_or, or_true, nI_1, Nat.reduceAdd, Nat.reduceLT]
    · rw [bI_f hc]
      refine ev_seg rfl ?_
      simp only [TE, sxs, sx, ldI, ldA, stI, stA, inc, gtF, ptF, ldX, stX, ldR, ldL, stL, dp1, dp2, Tm, kS0, kS1, kS2, kS3, kS4, kS5, kS6, kS7, kS8, kS9, kS10, kS11, kS12, kS13, kS14, kS15, kS16, kS17, kS18, kS19, kS20, kS21, kS22, kS23, kS24, kS25, kS26, kS27, kS28, kS30, kS31, kS32, kS33, kS34, kS35, kS36, kS37, kS38, kS39, kS40, kS41, kS42, kS43, kS51, kS52, kS53, List.getElem?_cons_zero, List.getElem?_cons_succ, List.set_cons_zero, List.set_cons_succ, List.length_cons, List.length_nil, List.drop_succ_cons, List.drop_zero, List.cons_append, List.nil_append, Option.toList_some, Option.toList_none, cz, ci2, true_and, and_true, and_self, true_or, or_true, nI_1, Nat.reduceAdd, Nat.reduceLT, o3]
      refine ⟨fun _ => ?_, fun h => absurd (nI_lt (by omega) (by omega)) h⟩
      refine ev_seg rfl ?_
      simp only [TE, sxs, sx, ldI, ldA, stI, stA, inc, gtF, ptF, ldX, stX, ldR, ldL, stL, dp1, dp2, Tm, kS0, kS1, kS2, kS3, kS4, kS5, kS6, kS7, kS8, kS9, kS10, kS11, kS12, kS13, kS14, kS15, kS16, kS17, kS18, kS19, kS20, kS21, kS22, kS23, kS24, kS25, kS26, kS27, kS28, kS30, kS31, kS32, kS33, kS34, kS35, kS36, kS37, kS38, kS39, kS40, kS41, kS42, kS43, kS51, kS52, kS53, List.getElem?_cons_zero, List.getElem?_cons_succ, List.set_cons_zero, List.set_cons_succ, List.length_cons, List.length_nil, List.drop_succ_cons, List.drop_zero, List.cons_append, List.nil_append, Option.toList_some, Option.toList_none, cz, ci2, true_and, and_true, and_self, true_or, or_true, nI_1, Nat.reduceAdd, Nat.reduceLT]
      refine ev_seg rfl ?_
      simp only [TE, sxs, sx, ldI, ldA, stI, stA, inc, gtF, ptF, ldX, stX, ldR, ldL, stL, dp1, dp2, Tm, kS0, kS1, kS2, kS3, kS4, kS5, kS6, kS7, kS8, kS9, kS10, kS11, kS12, kS13, kS14, kS15, kS16, kS17, kS18, kS19, kS20, kS21, kS22, kS23, kS24, kS25, kS26, kS27, kS28, kS30, kS31, kS32, kS33, kS34, kS35, kS36, kS37, kS38, kS39, kS40, kS41, kS42, kS43, kS51, kS52, kS53, List.getElem?_cons_zero, List.getElem?_cons_succ, List.set_cons_zero, List.set_cons_succ, List.length_cons, List.length_nil, List.drop_succ_cons, List.drop_zero, List.cons_append, List.nil_append, Option.toList_some, Option.toList_none, cz, ci2, true_and, and_true, and_self, true_or, or_true, nI_1, Nat.reduceAdd, Nat.reduceLT]
  have loop : ∀ p, p ≤ n → Ev sc d 40 1 [vR 19 0 0, vI (zI (γ w + mg)), vI (nI (ct (fun s => decide (s ≠ w) && decide (γ w + mg ≤ γ s + 3 * δ s)) p)), vI (nI p)] [] X (.inl (some (.inl (bI (pl ≤ ct (fun s => decide (s ≠ w) && decide (γ w + mg ≤ γ s + 3 * δ s)) n))))) X 0 := by
    apply loop_up
    · refine ev_seg rfl ?_
      simp only [TE, sxs, sx, ldI, ldA, stI, stA, inc, gtF, ptF, ldX, stX, ldR, ldL, stL, dp1, dp2, Tm, kS0, kS1, kS2, kS3, kS4, kS5, kS6, kS7, kS8, kS9, kS10, kS11, kS12, kS13, kS14, kS15, kS16, kS17, kS18, kS19, kS20, kS21, kS22, kS23, kS24, kS25, kS26, kS27, kS28, kS30, kS31, kS32, kS33, kS34, kS35, kS36, kS37, kS38, kS39, kS40, kS41, kS42, kS43, kS51, kS52, kS53, List.getElem?_cons_zero, List.getElem?_cons_succ, List.set_cons_zero, List.set_cons_succ, List.length_cons, List.length_nil, List.drop_succ_cons, List.drop_zero, List.cons_append, List.nil_append, Option.toList_some, Option.toList_none, cz, ci2, true_and, and_true, and_self, true_or, or_true, nI_1, Nat.reduceAdd, Nat.reduceLT, o1]
      refine ⟨fun _ => fin, fun h => absurd (nleI (Nat.le_refl _) (by omega)) h⟩
    · intro p hp ih
      have vp : vp_in (nI p) 5 := vpn (by omega) (by decide)
      have g1 := hg w hw
      have g2 := hg p hp
      have g3 := hd p hp
      have e9 : zI (γ p) + 3 * zI (δ p) = zI (γ p + 3 * δ p) := by
        rw [show (3 : Int32) = zI 3 from rfl, ← Int32.ofInt_mul, ← Int32.ofInt_add]
      have back : ∀ c, ct (fun s => decide (s ≠ w) && decide (γ w + mg ≤ γ s + 3 * δ s)) (p + 1) = c → Ev sc d 40 5 [vR 19 0 0, vI (zI (γ w + mg)), vI (nI c), vI (nI p)] [] X (.inl (some (.inl (bI (pl ≤ ct (fun s => decide (s ≠ w) && decide (γ w + mg ≤ γ s + 3 * δ s)) n))))) X 0 := by
        intro c hc
        rw [hc] at ih
        refine ev_seg rfl ?_
        simp only [TE, sxs, sx, ldI, ldA, stI, stA, inc, gtF, ptF, ldX, stX, ldR, ldL, stL, dp1, dp2, Tm, kS0, kS1, kS2, kS3, kS4, kS5, kS6, kS7, kS8, kS9, kS10, kS11, kS12, kS13, kS14, kS15, kS16, kS17, kS18, kS19, kS20, kS21, kS22, kS23, kS24, kS25, kS26, kS27, kS28, kS30, kS31, kS32, kS33, kS34, kS35, kS36, kS37, kS38, kS39, kS40, kS41, kS42, kS43, kS51, kS52, kS53, List.getElem?_cons_zero, List.getElem?_cons_succ, List.set_cons_zero, List.set_cons_succ, List.length_cons, List.length_nil, List.drop_succ_cons, List.drop_zero, List.cons_append, List.nil_append, Option.toList_some, Option.toList_none, cz, ci2, true_and, and_true, and_self, true_or, or_true, nI_1, Nat.reduceAdd, Nat.reduceLT]
        exact ih
      refine ev_seg rfl ?_
      simp only [TE, sxs, sx, ldI, ldA, stI, stA, inc, gtF, ptF, ldX, stX, ldR, ldL, stL, dp1, dp2, Tm, kS0, kS1, kS2, kS3, kS4, kS5, kS6, kS7, kS8, kS9, kS10, kS11, kS12, kS13, kS14, kS15, kS16, kS17, kS18, kS19, kS20, kS21, kS22, kS23, kS24, kS25, kS26, kS27, kS28, kS30, kS31, kS32, kS33, kS34, kS35, kS36, kS37, kS38, kS39, kS40, kS41, kS42, kS43, kS51, kS52, kS53, List.getElem?_cons_zero, List.getElem?_cons_succ, List.set_cons_zero, List.set_cons_succ, List.length_cons, List.length_nil, List.drop_succ_cons, List.drop_zero, List.cons_append, List.nil_append, Option.toList_some, Option.toList_none, cz, ci2, true_and, and_true, and_self, true_or, or_true, nI_1, Nat.reduceAdd, Nat.reduceLT, o1]
      refine ⟨fun h => absurd h (nle hp (by omega)), fun _ => ?_⟩
      refine ev_seg rfl ?_
      simp only [TE, sxs, sx, ldI, ldA, stI, stA, inc, gtF, ptF, ldX, stX, ldR, ldL, stL, dp1, dp2, Tm, kS0, kS1, kS2, kS3, kS4, kS5, kS6, kS7, kS8, kS9, kS10, kS11, kS12, kS13, kS14, kS15, kS16, kS17, kS18, kS19, kS20, kS21, kS22, kS23, kS24, kS25, kS26, kS27, kS28, kS30, kS31, kS32, kS33, kS34, kS35, kS36, kS37, kS38, kS39, kS40, kS41, kS42, kS43, kS51, kS52, kS53, List.getElem?_cons_zero, List.getElem?_cons_succ, List.set_cons_zero, List.set_cons_succ, List.length_cons, List.length_nil, List.drop_succ_cons, List.drop_zero, List.cons_append, List.nil_append, Option.toList_some, Option.toList_none, cz, ci2, true_and, and_true, and_self, true_or, or_true, nI_1, Nat.reduceAdd, Nat.reduceLT, o2]
      refine ⟨fun h => ?_, fun h => ?_⟩
      · have hpw : p = w := nI_inj (by omega) (by omega) h
        refine back _ ?_
        show ct _ p + (if (decide (p ≠ w) && decide (γ w + mg ≤ γ p + 3 * δ p)) = true then 1 else 0) = _
        rw [if_neg (by simp [hpw]), Nat.add_zero]
      · have hpw : p ≠ w := fun e => h (by rw [e])
        refine ev_seg rfl ?_
        simp only [TE, sxs, sx, ldI, ldA, stI, stA, inc, gtF, ptF, ldX, stX, ldR, ldL, stL, dp1, dp2, Tm, kS0, kS1, kS2, kS3, kS4, kS5, kS6, kS7, kS8, kS9, kS10, kS11, kS12, kS13, kS14, kS15, kS16, kS17, kS18, kS19, kS20, kS21, kS22, kS23, kS24, kS25, kS26, kS27, kS28, kS30, kS31, kS32, kS33, kS34, kS35, kS36, kS37, kS38, kS39, kS40, kS41, kS42, kS43, kS51, kS52, kS53, List.getElem?_cons_zero, List.getElem?_cons_succ, List.set_cons_zero, List.set_cons_succ, List.length_cons, List.length_nil, List.drop_succ_cons, List.drop_zero, List.cons_append, List.nil_append, Option.toList_some, Option.toList_none, cz, ci2, true_and, and_true, and_self, true_or, or_true, nI_1, Nat.reduceAdd, Nat.reduceLT, o5 p hp, o6 p hp, e9]
        refine ⟨(by first | assumption | (and_intros <;> first | assumption | trivial | decide)), fun h => ?_, fun h => ?_⟩
        · rw [zI_lt (by omega) (by omega) (by omega) (by omega)] at h
          refine back _ ?_
          show ct _ p + (if (decide (p ≠ w) && decide (γ w + mg ≤ γ p + 3 * δ p)) = true then 1 else 0) = _
          rw [if_neg (by simp [hpw]; omega), Nat.add_zero]
        · rw [zI_lt (by omega) (by omega) (by omega) (by omega)] at h
          refine ev_seg rfl ?_
          simp only [TE, sxs, sx, ldI, ldA, stI, stA, inc, gtF, ptF, ldX, stX, ldR, ldL, stL, dp1, dp2, Tm, kS0, kS1, kS2, kS3, kS4, kS5, kS6, kS7, kS8, kS9, kS10, kS11, kS12, kS13, kS14, kS15, kS16, kS17, kS18, kS19, kS20, kS21, kS22, kS23, kS24, kS25, kS26, kS27, kS28, kS30, kS31, kS32, kS33, kS34, kS35, kS36, kS37, kS38, kS39, kS40, kS41, kS42, kS43, kS51, kS52, kS53, List.getElem?_cons_zero, List.getElem?_cons_succ, List.set_cons_zero, List.set_cons_succ, List.length_cons, List.length_nil, List.drop_succ_cons, List.drop_zero, List.cons_append, List.nil_append, Option.toList_some, Option.toList_none, cz, ci2, true_and, and_true, and_self, true_or, or_true, nI_1, Nat.reduceAdd, Nat.reduceLT]
          refine back _ ?_
          show ct _ p + (if (decide (p ≠ w) && decide (γ w + mg ≤ γ p + 3 * δ p)) = true then 1 else 0) = _
          rw [if_pos (by simp [hpw]; omega)]
  rw [en40]
  refine ev_seg rfl ?_
  simp only [TE, sxs, sx, ldI, ldA, stI, stA, inc, gtF, ptF, ldX, stX, ldR, ldL, stL, dp1, dp2, Tm, kS0, kS1, kS2, kS3, kS4, kS5, kS6, kS7, kS8, kS9, kS10, kS11, kS12, kS13, kS14, kS15, kS16, kS17, kS18, kS19, kS20, kS21, kS22, kS23, kS24, kS25, kS26, kS27, kS28, kS30, kS31, kS32, kS33, kS34, kS35, kS36, kS37, kS38, kS39, kS40, kS41, kS42, kS43, kS51, kS52, kS53, List.getElem?_cons_zero, List.getElem?_cons_succ, List.set_cons_zero, List.set_cons_succ, List.length_cons, List.length_nil, List.drop_succ_cons, List.drop_zero, List.cons_append, List.nil_append, Option.toList_some, Option.toList_none, cz, ci2, true_and, and_true, and_self, true_or, or_true, nI_1, Nat.reduceAdd, Nat.reduceLT, o2, o4, o5 w hw, ebar]
  exact ⟨(by first | assumption | (and_intros <;> first | assumption | trivial | decide)), loop 0 (Nat.zero_le _)⟩
/-! play and take back -/
def st1 (X : XT) (k : Nat) (j v : Int32) : XT := (xs X.1 k 0 0 j (X.1 k 0 0 j + v), X.2)
def sb1 (X : XT) (k : Nat) (j v : Int32) : XT := (xs X.1 k 0 0 j (X.1 k 0 0 j - v), X.2)
def lowG (o : Nat) : Int := if o = 0 then 3 else if o = 1 then 1 else 0
def upG (o : Nat) : Int := if o = 0 then 0 else if o = 1 then 1 else 3
def ad1 (γ : Nat → Int) (i : Nat) (a : Int) : Nat → Int := fun s => γ s + if s = i then a else 0
theorem st1_fr (X : XT) {k : Nat} (j v : Int32) {K : List Nat} (h : k ∈ K) : Fr K X (st1 X k j v) := Fr.xs _ _ _ _ _ h
theorem sb1_st1 (X : XT) (k : Nat) (j : Int32) (a : Int) : sb1 X k j (zI a) = st1 X k j (zI (-a)) := by
  unfold sb1 st1
  rw [Int32.sub_eq_add_neg, show zI (-a) = -zI a from Int32.ofInt_neg a]
theorem ol_23 {n w pl mg : Nat} {γ δ : Nat → Int} (hO : OL X n w pl mg γ δ) (hn : n ≤ 5) {i : Nat} (hi : i < n) (a : Int) : OL (st1 X 23 (nI i) (zI a)) n w pl mg (ad1 γ i a) δ := by
  have hf := st1_fr X (k := 23) (nI i) (zI a) (List.mem_singleton.mpr rfl)
  obtain ⟨o1, o2, o3, o4, o5, o6⟩ := hO
  refine ⟨by rw [hf.at 19 (by decide)]; exact o1, by rw [hf.at 19 (by decide)]; exact o2, by rw [hf.at 19 (by decide)]; exact o3, by rw [hf.at 19 (by decide)]; exact o4, fun j hj => ?_, fun j hj => by rw [hf.at 24 (by decide)]; exact o6 j hj⟩
  show xs X.1 23 0 0 (nI i) (X.1 23 0 0 (nI i) + zI a) 23 0 0 (nI j) = zI (γ j + if j = i then a else 0)
  by_cases h : j = i
  · rw [h, xs_self, if_pos rfl, o5 i hi, ← Int32.ofInt_add]
  · rw [xs_nj _ _ _ _ _ (fun q => h (nI_inj (by omega) (by omega) q)), if_neg h, Int.add_zero]
    exact o5 j hj
theorem ol_24 {n w pl mg : Nat} {γ δ : Nat → Int} (hO : OL X n w pl mg γ δ) (hn : n ≤ 5) {i : Nat} (hi : i < n) (a : Int) : OL (st1 X 24 (nI i) (zI a)) n w pl mg γ (ad1 δ i a) := by
  have hf := st1_fr X (k := 24) (nI i) (zI a) (List.mem_singleton.mpr rfl)
  obtain ⟨o1, o2, o3, o4, o5, o6⟩ := hO
  refine ⟨by rw [hf.at 19 (by decide)]; exact o1, by rw [hf.at 19 (by decide)]; exact o2, by rw [hf.at 19 (by decide)]; exact o3, by rw [hf.at 19 (by decide)]; exact o4, fun j hj => by rw [hf.at 23 (by decide)]; exact o5 j hj, fun j hj => ?_⟩
  show xs X.1 24 0 0 (nI i) (X.1 24 0 0 (nI i) + zI a) 24 0 0 (nI j) = zI (δ j + if j = i then a else 0)
  by_cases h : j = i
  · rw [h, xs_self, if_pos rfl, o6 i hi, ← Int32.ofInt_add]
  · rw [xs_nj _ _ _ _ _ (fun q => h (nI_inj (by omega) (by omega) q)), if_neg h, Int.add_zero]
    exact o6 j hj
theorem ro51 {o : Nat} (ho : o < 3) : roV sc 51 (nI o).toNatClampNeg = zI (lowG o) := by
  rcases (show o = 0 ∨ o = 1 ∨ o = 2 by omega) with rfl | rfl | rfl <;> rfl
theorem ro52 {o : Nat} (ho : o < 3) : roV sc 52 (nI o).toNatClampNeg = zI (upG o) := by
  rcases (show o = 0 ∨ o = 1 ∨ o = 2 by omega) with rfl | rfl | rfl <;> rfl
/-- points after a match -/
def gpl (γ : Nat → Int) (p : Nat × Nat) (o : Nat) : Nat → Int := ad1 (ad1 γ p.1 (lowG o)) p.2 (upG o)
def dpl (δ : Nat → Int) (p : Nat × Nat) : Nat → Int := ad1 (ad1 δ p.1 (-1)) p.2 (-1)
set_option maxRecDepth 20000 in
theorem s_play {n w pl mg : Nat} {γ δ : Nat → Int} {L : List (Nat × Nat)} (hO : OL X n w pl mg γ δ) (hn : n ≤ 5) (hL : Lst20 X L) (hl : L.length ≤ 10) {k : Nat} (hk : k < L.length) (h1 : L[k].1 < n) (h2 : L[k].2 < n) {o : Nat} (ho : o < 3) :
    ∃ Z, Ev sc (d + 1) 37 0 (ent 37 [vR 19 0 0, vI (nI k), vI (nI o)]) [] X (.inl none) Z 0 ∧ Fr [23, 24] X Z ∧ OL Z n w pl mg (gpl γ L[k] o) (dpl δ L[k]) := by
  obtain ⟨l1, l2⟩ := hL k hk
  have vk : vp_in (nI k) 10 := vpn (by omega) (by decide)
  have v1 : vp_in (nI L[k].1) 5 := vpn (by omega) (by decide)
  have v2 : vp_in (nI L[k].2) 5 := vpn (by omega) (by decide)
  have vo : vp_in (nI o) 3 := vpn (by omega) (by decide)
  refine ⟨sb1 (sb1 (st1 (st1 X 23 (nI L[k].1) (zI (lowG o))) 23 (nI L[k].2) (zI (upG o))) 24 (nI L[k].1) (zI 1)) 24 (nI L[k].2) (zI 1), ?_, ?_, ?_⟩
  · rw [en37]
    refine ev_seg rfl ?_
    simp only [TE, sxs, sx, ldI, ldA, stI, stA, inc, gtF, ptF, ldX, stX, ldR, ldL, stL, dp1, dp2, Tm, kS0, kS1, kS2, kS3, kS4, kS5, kS6, kS7, kS8, kS9, kS10, kS11, kS12, kS13, kS14, kS15, kS16, kS17, kS18, kS19, kS20, kS21, kS22, kS23, kS24, kS25, kS26, kS27, kS28, kS30, kS31, kS32, kS33, kS34, kS35, kS36, kS37, kS38, kS39, kS40, kS41, kS42, kS43, kS51, kS52, kS53, List.getElem?_cons_zero, List.getElem?_cons_succ, List.set_cons_zero, List.set_cons_succ, List.length_cons, List.length_nil, List.drop_succ_cons, List.drop_zero, List.cons_append, List.nil_append, Option.toList_some, Option.toList_none, cz, ci2, true_and, and_true, and_self, true_or, or_true, nI_1, Nat.reduceAdd, Nat.reduceLT]
    refine cv2 rfl rfl (by first | exact rfl | exact trivial) (s_lowerOf20 vk) ?_
    rw [l1]
    refine ev_seg rfl ?_
    simp only [TE, sxs, sx, ldI, ldA, stI, stA, inc, gtF, ptF, ldX, stX, ldR, ldL, stL, dp1, dp2, Tm, kS0, kS1, kS2, kS3, kS4, kS5, kS6, kS7, kS8, kS9, kS10, kS11, kS12, kS13, kS14, kS15, kS16, kS17, kS18, kS19, kS20, kS21, kS22, kS23, kS24, kS25, kS26, kS27, kS28, kS30, kS31, kS32, kS33, kS34, kS35, kS36, kS37, kS38, kS39, kS40, kS41, kS42, kS43, kS51, kS52, kS53, List.getElem?_cons_zero, List.getElem?_cons_succ, List.set_cons_zero, List.set_cons_succ, List.length_cons, List.length_nil, List.drop_succ_cons, List.drop_zero, List.cons_append, List.nil_append, Option.toList_some, Option.toList_none, cz, ci2, true_and, and_true, and_self, true_or, or_true, nI_1, Nat.reduceAdd, Nat.reduceLT]
    refine cv2 rfl rfl (by first | exact rfl | exact trivial) (s_upperOf20 vk) ?_
    rw [l2]
    refine ev_seg rfl ?_
    simp only [TE, sxs, sx, ldI, ldA, stI, stA, inc, gtF, ptF, ldX, stX, ldR, ldL, stL, dp1, dp2, Tm, kS0, kS1, kS2, kS3, kS4, kS5, kS6, kS7, kS8, kS9, kS10, kS11, kS12, kS13, kS14, kS15, kS16, kS17, kS18, kS19, kS20, kS21, kS22, kS23, kS24, kS25, kS26, kS27, kS28, kS30, kS31, kS32, kS33, kS34, kS35, kS36, kS37, kS38, kS39, kS40, kS41, kS42, kS43, kS51, kS52, kS53, List.getElem?_cons_zero, List.getElem?_cons_succ, List.set_cons_zero, List.set_cons_succ, List.length_cons, List.length_nil, List.drop_succ_cons, List.drop_zero, List.cons_append, List.nil_append, Option.toList_some, Option.toList_none, cz, ci2, true_and, and_true, and_self, true_or, or_true, nI_1, Nat.reduceAdd, Nat.reduceLT, ro51 ho, ro52 ho, roN]
    refine ⟨(by first | assumption | (and_intros <;> first | assumption | trivial | decide)), ?_⟩
    rfl
  · rw [sb1_st1, sb1_st1]
    exact (((st1_fr _ _ _ (by decide)).tr (st1_fr _ _ _ (by decide))).tr (st1_fr _ _ _ (by decide))).tr (st1_fr _ _ _ (by decide))
  · rw [sb1_st1, sb1_st1]
    exact ol_24 (ol_24 (ol_23 (ol_23 hO hn h1 _) hn h2 _) hn h1 _) hn h2 _
set_option maxRecDepth 20000 in
theorem s_takeBack {n w pl mg : Nat} {γ δ : Nat → Int} {L : List (Nat × Nat)} (hn : n ≤ 5) (hL : Lst20 X L) (hl : L.length ≤ 10) {k : Nat} (hk : k < L.length) (h1 : L[k].1 < n) (h2 : L[k].2 < n) {o : Nat} (ho : o < 3) (hO : OL X n w pl mg (gpl γ L[k] o) (dpl δ L[k])) :
    ∃ Z, Ev sc (d + 1) 38 0 (ent 38 [vR 19 0 0, vI (nI k), vI (nI o)]) [] X (.inl none) Z 0 ∧ Fr [23, 24] X Z ∧ OL Z n w pl mg γ δ := by
  obtain ⟨l1, l2⟩ := hL k hk
  have vk : vp_in (nI k) 10 := vpn (by omega) (by decide)
  have v1 : vp_in (nI L[k].1) 5 := vpn (by omega) (by decide)
  have v2 : vp_in (nI L[k].2) 5 := vpn (by omega) (by decide)
  have vo : vp_in (nI o) 3 := vpn (by omega) (by decide)
  refine ⟨st1 (st1 (sb1 (sb1 X 23 (nI L[k].1) (zI (lowG o))) 23 (nI L[k].2) (zI (upG o))) 24 (nI L[k].1) (zI 1)) 24 (nI L[k].2) (zI 1), ?_, ?_, ?_⟩
  · rw [en38]
    refine ev_seg rfl ?_
    simp only [TE, sxs, sx, ldI, ldA, stI, stA, inc, gtF, ptF, ldX, stX, ldR, ldL, stL, dp1, dp2, Tm, kS0, kS1, kS2, kS3, kS4, kS5, kS6, kS7, kS8, kS9, kS10, kS11, kS12, kS13, kS14, kS15, kS16, kS17, kS18, kS19, kS20, kS21, kS22, kS23, kS24, kS25, kS26, kS27, kS28, kS30, kS31, kS32, kS33, kS34, kS35, kS36, kS37, kS38, kS39, kS40, kS41, kS42, kS43, kS51, kS52, kS53, List.getElem?_cons_zero, List.getElem?_cons_succ, List.set_cons_zero, List.set_cons_succ, List.length_cons, List.length_nil, List.drop_succ_cons, List.drop_zero, List.cons_append, List.nil_append, Option.toList_some, Option.toList_none, cz, ci2, true_and, and_true, and_self, true_or, or_true, nI_1, Nat.reduceAdd, Nat.reduceLT]
    refine cv2 rfl rfl (by first | exact rfl | exact trivial) (s_lowerOf20 vk) ?_
    rw [l1]
    refine ev_seg rfl ?_
    simp only [TE, sxs, sx, ldI, ldA, stI, stA, inc, gtF, ptF, ldX, stX, ldR, ldL, stL, dp1, dp2, Tm, kS0, kS1, kS2, kS3, kS4, kS5, kS6, kS7, kS8, kS9, kS10, kS11, kS12, kS13, kS14, kS15, kS16, kS17, kS18, kS19, kS20, kS21, kS22, kS23, kS24, kS25, kS26, kS27, kS28, kS30, kS31, kS32, kS33, kS34, kS35, kS36, kS37, kS38, kS39, kS40, kS41, kS42, kS43, kS51, kS52, kS53, List.getElem?_cons_zero, List.getElem?_cons_succ, List.set_cons_zero, List.set_cons_succ, List.length_cons, List.length_nil, List.drop_succ_cons, List.drop_zero, List.cons_append, List.nil_append, Option.toList_some, Option.toList_none, cz, ci2, true_and, and_true, and_self, true_or, or_true, nI_1, Nat.reduceAdd, Nat.reduceLT]
    refine cv2 rfl rfl (by first | exact rfl | exact trivial) (s_upperOf20 vk) ?_
    rw [l2]
    refine ev_seg rfl ?_
    simp only [TE, sxs, sx, ldI, ldA, stI, stA, inc, gtF, ptF, ldX, stX, ldR, ldL, stL, dp1, dp2, Tm, kS0, kS1, kS2, kS3, kS4, kS5, kS6, kS7, kS8, kS9, kS10, kS11, kS12, kS13, kS14, kS15, kS16, kS17, kS18, kS19, kS20, kS21, kS22, kS23, kS24, kS25, kS26, kS27, kS28, kS30, kS31, kS32, kS33, kS34, kS35, kS36, kS37, kS38, kS39, kS40, kS41, kS42, kS43, kS51, kS52, kS53, List.getElem?_cons_zero, List.getElem?_cons_succ, List.set_cons_zero, List.set_cons_succ, List.length_cons, List.length_nil, List.drop_succ_cons, List.drop_zero, List.cons_append, List.nil_append, Option.toList_some, Option.toList_none, cz, ci2, true_and, and_true, and_self, true_or, or_true, nI_1, Nat.reduceAdd, Nat.reduceLT, ro51 ho, ro52 ho, roN]
    refine ⟨(by first | assumption | (and_intros <;> first | assumption | trivial | decide)), ?_⟩
    rfl
  · rw [sb1_st1, sb1_st1]
    exact (((st1_fr _ _ _ (by decide)).tr (st1_fr _ _ _ (by decide))).tr (st1_fr _ _ _ (by decide))).tr (st1_fr _ _ _ (by decide))
  · rw [sb1_st1, sb1_st1]
    have h9 := ol_24 (ol_24 (ol_23 (ol_23 hO hn h1 (-lowG o)) hn h2 (-upG o)) hn h1 1) hn h2 1
    have e1 : ad1 (ad1 (gpl γ L[k] o) L[k].1 (-lowG o)) L[k].2 (-upG o) = γ := by
      funext s
      unfold gpl ad1
      split <;> split <;> omega
    have e2 : ad1 (ad1 (dpl δ L[k]) L[k].1 1) L[k].2 1 = δ := by
      funext s
      unfold dpl ad1
      split <;> split <;> omega
    rw [e1, e2] at h9
    exact h9
end Otl
