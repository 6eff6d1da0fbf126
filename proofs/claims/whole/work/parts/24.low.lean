/-! the lowest way, and the calls from outside -/
section Lwy
variable {sc : SC} {d : Nat} {g : Int32} {X : XT}
def oI : Option Nat → Int32
  | none => -1
  | some x => nI x
theorem nI_ne {x : Nat} (h : x < 2 ^ 31) : ¬ nI x = -1 := by
  rw [zI_n, show (-1 : Int32) = zI (-1) from rfl, zI_inj (by omega) (by omega) (by omega) (by omega)]
  omega
theorem p3_le : ∀ k, k ≤ 10 → 3 ^ k ≤ 59049 := by decide
theorem s_lowestPassed {n w pl mg : Nat} {L : List (Nat × Nat)} (hn : n ≤ 5) (hw : w < n) (hm : mg ≤ 1) (hp : pl ≤ 2) (hl : L.length ≤ 10) (hL0 : ∀ p, p ∈ L → p.1 < n ∧ p.2 < n ∧ p.1 ≠ p.2) :
    ∀ (k : Nat) (X : XT) (γ : Nat → Int), k ≤ L.length → Lst20 X L → bd n (5000 - 3 * k) γ → OL X n w pl mg γ (rem (L.take k).reverse) →
    ∃ Z, Ev sc (d + 2 + k) 36 0 (ent 36 [vR 19 0 0, vI (nI k)]) [] X (.inl (some (.inl (oI (lowL (psd n w pl mg) (L.take k).reverse γ))))) Z 0 ∧ Fr [23, 24] X Z ∧ OL Z n w pl mg γ (rem (L.take k).reverse) := by
  intro k
  induction k with
  | zero =>
    intro X γ hk hL hg hO
    have hb1 : bd n 10000 γ := fun i hi => by have := hg i hi; omega
    have hb2 : bd n 10000 (rem (L.take 0).reverse) := fun i _ => by
      have := rem_bd (L.take 0).reverse i
      rw [List.length_reverse, List.length_take] at this
      omega
    refine ⟨X, ?_, Fr.rf _ _, hO⟩
    rw [en36]
    refine ev_seg rfl ?_
    simp only [TE, sxs, sx, ldI, ldA, stI, stA, inc, gtF, ptF, ldX, stX, ldR, ldL, stL, dp1, dp2, Tm, kS0, kS1, kS2, kS3, kS4, kS5, kS6, kS7, kS8, kS9, kS10, kS11, kS12, kS13, kS14, kS15, kS16, kS17, kS18, kS19, kS20, kS21, kS22, kS23, kS24, kS25, kS26, kS27, kS28, kS30, kS31, kS32, kS33, kS34, kS35, kS36, kS37, kS38, kS39, kS40, kS41, kS42, kS43, kS51, kS52, kS53, List.getElem?_cons_zero, List.getElem?_cons_succ, List.set_cons_zero, List.set_cons_succ, List.length_cons, List.length_nil, List.drop_succ_cons, List.drop_zero, List.cons_append, List.nil_append, Option.toList_some, Option.toList_none, cz, ci2, true_and, and_true, and_self, true_or, or_true, nI_1, Nat.reduceAdd, Nat.reduceLT]
    refine cv1 rfl rfl (by first | exact rfl | exact trivial) (s_isPassed hO hn hw hm hp hb1 hb2) ?_
    by_cases hc : pl ≤ ct (fun s => decide (s ≠ w) && decide (γ w + 3 * rem (L.take 0).reverse w + mg ≤ γ s)) n
    · rw [bI_t hc, (all_pass _ γ (fun q hq => by simp at hq) hc).2]
      refine ev_seg rfl ?_
      simp only [TE, sxs, sx, ldI, ldA, stI, stA, inc, gtF, ptF, ldX, stX, ldR, ldL, stL, dp1, dp2, Tm, kS0, kS1, kS2, kS3, kS4, kS5, kS6, kS7, kS8, kS9, kS10, kS11, kS12, kS13, kS14, kS15, kS16, kS17, kS18, kS19, kS20, kS21, kS22, kS23, kS24, kS25, kS26, kS27, kS28, kS30, kS31, kS32, kS33, kS34, kS35, kS36, kS37, kS38, kS39, kS40, kS41, kS42, kS43, kS51, kS52, kS53, List.getElem?_cons_zero, List.getElem?_cons_succ, List.set_cons_zero, List.set_cons_succ, List.length_cons, List.length_nil, List.drop_succ_cons, List.drop_zero, List.cons_append, List.nil_append, Option.toList_some, Option.toList_none, cz, ci2, true_and, and_true, and_self, true_or, or_true, nI_1, Nat.reduceAdd, Nat.reduceLT]
      refine ⟨fun h => absurd h (by decide), fun _ => ?_⟩
      refine ev_seg rfl ?_
      simp only [TE, sxs, sx, ldI, ldA, stI, stA, inc, gtF, ptF, ldX, stX, ldR, ldL, stL, dp1, dp2, Tm, kS0, kS1, kS2, kS3, kS4, kS5, kS6, kS7, kS8, kS9, kS10, kS11, kS12, kS13, kS14, kS15, kS16, kS17, kS18, kS19, kS20, kS21, kS22, kS23, kS24, kS25, kS26, kS27, kS28, kS30, kS31, kS32, kS33, kS34, kS35, kS36, kS37, kS38, kS39, kS40, kS41, kS42, kS43, kS51, kS52, kS53, List.getElem?_cons_zero, List.getElem?_cons_succ, List.set_cons_zero, List.set_cons_succ, List.length_cons, List.length_nil, List.drop_succ_cons, List.drop_zero, List.cons_append, List.nil_append, Option.toList_some, Option.toList_none, cz, ci2, true_and, and_true, and_self, true_or, or_true, nI_1, Nat.reduceAdd, Nat.reduceLT]
      rfl
    · have e0 : lowL (psd n w pl mg) (L.take 0).reverse γ = none := by
        rw [List.take_zero, List.reverse_nil, lowL, if_neg ?_]
        unfold psd
        rw [decide_eq_true_eq]
        intro h
        refine hc (Nat.le_trans h (Nat.le_of_eq (ct_congr fun s _ => ?_)))
        rw [List.take_zero, List.reverse_nil, rem]
        simp
      rw [bI_f hc, e0]
      refine ev_seg rfl ?_
      simp only [TE, sxs, sx, ldI, ldA, stI, stA, inc, gtF, ptF, ldX, stX, ldR, ldL, stL, dp1, dp2, Tm, kS0, kS1, kS2, kS3, kS4, kS5, kS6, kS7, kS8, kS9, kS10, kS11, kS12, kS13, kS14, kS15, kS16, kS17, kS18, kS19, kS20, kS21, kS22, kS23, kS24, kS25, kS26, kS27, kS28, kS30, kS31, kS32, kS33, kS34, kS35, kS36, kS37, kS38, kS39, kS40, kS41, kS42, kS43, kS51, kS52, kS53, List.getElem?_cons_zero, List.getElem?_cons_succ, List.set_cons_zero, List.set_cons_succ, List.length_cons, List.length_nil, List.drop_succ_cons, List.drop_zero, List.cons_append, List.nil_append, Option.toList_some, Option.toList_none, cz, ci2, true_and, and_true, and_self, true_or, or_true, nI_1, Nat.reduceAdd, Nat.reduceLT]
      refine ⟨fun _ => ?_, fun h => absurd trivial h⟩
      refine ev_seg rfl ?_
      simp only [TE, sxs, sx, ldI, ldA, stI, stA, inc, gtF, ptF, ldX, stX, ldR, ldL, stL, dp1, dp2, Tm, kS0, kS1, kS2, kS3, kS4, kS5, kS6, kS7, kS8, kS9, kS10, kS11, kS12, kS13, kS14, kS15, kS16, kS17, kS18, kS19, kS20, kS21, kS22, kS23, kS24, kS25, kS26, kS27, kS28, kS30, kS31, kS32, kS33, kS34, kS35, kS36, kS37, kS38, kS39, kS40, kS41, kS42, kS43, kS51, kS52, kS53, List.getElem?_cons_zero, List.getElem?_cons_succ, List.set_cons_zero, List.set_cons_succ, List.length_cons, List.length_nil, List.drop_succ_cons, List.drop_zero, List.cons_append, List.nil_append, Option.toList_some, Option.toList_none, cz, ci2, true_and, and_true, and_self, true_or, or_true, nI_1, Nat.reduceAdd, Nat.reduceLT]
      refine ⟨fun _ => ?_, fun h => absurd (by decide) h⟩
      refine ev_seg rfl ?_
      simp only [TE, sxs, sx, ldI, ldA, stI, stA, inc, gtF, ptF, ldX, stX, ldR, ldL, stL, dp1, dp2, Tm, kS0, kS1, kS2, kS3, kS4, kS5, kS6, kS7, kS8, kS9, kS10, kS11, kS12, kS13, kS14, kS15, kS16, kS17, kS18, kS19, kS20, kS21, kS22, kS23, kS24, kS25, kS26, kS27, kS28, kS30, kS31, kS32, kS33, kS34, kS35, kS36, kS37, kS38, kS39, kS40, kS41, kS42, kS43, kS51, kS52, kS53, List.getElem?_cons_zero, List.getElem?_cons_succ, List.set_cons_zero, List.set_cons_succ, List.length_cons, List.length_nil, List.drop_succ_cons, List.drop_zero, List.cons_append, List.nil_append, Option.toList_some, Option.toList_none, cz, ci2, true_and, and_true, and_self, true_or, or_true, nI_1, Nat.reduceAdd, Nat.reduceLT]
      rfl
  | succ k ih =>
    intro X γ hk hL hg hO
    have hk1 : k < L.length := by omega
    have hp3 := hL0 L[k] (List.getElem_mem hk1)
    have hpR : ∀ q, q ∈ (L.take (k + 1)).reverse → q.1 ≠ q.2 := fun q hq => (hL0 q (List.mem_of_mem_take (List.mem_reverse.mp hq))).2.2
    have hb1 : bd n 10000 γ := fun i hi => by have := hg i hi; omega
    have hb2 : bd n 10000 (rem (L.take (k + 1)).reverse) := fun i _ => by
      have := rem_bd (L.take (k + 1)).reverse i
      rw [List.length_reverse, List.length_take] at this
      omega
    have hlen : (L.take (k + 1)).reverse.length = k + 1 := by rw [List.length_reverse, List.length_take]; omega
    have hlk : (L.take k).reverse.length = k := by rw [List.length_reverse, List.length_take]; omega
    have h3k := p3_le k (by omega)
    have fin : ∀ v, (pl ≤ ct (fun s => decide (s ≠ w) && decide (γ w + 3 * rem (L.take (k + 1)).reverse w + mg ≤ γ s)) n → v = 0) →
        (∃ Z, (¬ pl ≤ ct (fun s => decide (s ≠ w) && decide (γ w + 3 * rem (L.take (k + 1)).reverse w + mg ≤ γ s)) n → Ev sc (d + 2 + (k + 1)) 36 3 [vR 19 0 0, vI (nI (k + 1)), av0, av0, av0] [] X (.inl (some (.inl v))) Z 0) ∧ Fr [23, 24] X Z ∧ OL Z n w pl mg γ (rem (L.take (k + 1)).reverse)) →
        ∃ Z, Ev sc (d + 2 + (k + 1)) 36 0 (ent 36 [vR 19 0 0, vI (nI (k + 1))]) [] X (.inl (some (.inl v))) Z 0 ∧ Fr [23, 24] X Z ∧ OL Z n w pl mg γ (rem (L.take (k + 1)).reverse) := by
      intro v hv hZ
      by_cases hc : pl ≤ ct (fun s => decide (s ≠ w) && decide (γ w + 3 * rem (L.take (k + 1)).reverse w + mg ≤ γ s)) n
      · refine ⟨X, ?_, Fr.rf _ _, hO⟩
        rw [en36]
        refine ev_seg rfl ?_
        simp only [TE, sxs, sx, ldI, ldA, stI, stA, inc, gtF, ptF, ldX, stX, ldR, ldL, stL, dp1, dp2, Tm, kS0, kS1, kS2, kS3, kS4, kS5, kS6, kS7, kS8, kS9, kS10, kS11, kS12, kS13, kS14, kS15, kS16, kS17, kS18, kS19, kS20, kS21, kS22, kS23, kS24, kS25, kS26, kS27, kS28, kS30, kS31, kS32, kS33, kS34, kS35, kS36, kS37, kS38, kS39, kS40, kS41, kS42, kS43, kS51, kS52, kS53, List.getElem?_cons_zero, List.getElem?_cons_succ, List.set_cons_zero, List.set_cons_succ, List.length_cons, List.length_nil, List.drop_succ_cons, List.drop_zero, List.cons_append, List.nil_append, Option.toList_some, Option.toList_none, cz, ci2, true_and, and_true, and_self, true_or, or_true, nI_1, Nat.reduceAdd, Nat.reduceLT]
        refine cv1 rfl rfl (by first | exact rfl | exact trivial) (s_isPassed hO hn hw hm hp hb1 hb2) ?_
        rw [bI_t hc, hv hc]
        refine ev_seg rfl ?_
        simp only [TE, sxs, sx, ldI, ldA, stI, stA, inc, gtF, ptF, ldX, stX, ldR, ldL, stL, dp1, dp2, Tm, kS0, kS1, kS2, kS3, kS4, kS5, kS6, kS7, kS8, kS9, kS10, kS11, kS12, kS13, kS14, kS15, kS16, kS17, kS18, kS19, kS20, kS21, kS22, kS23, kS24, kS25, kS26, kS27, kS28, kS30, kS31, kS32, kS33, kS34, kS35, kS36, kS37, kS38, kS39, kS40, kS41, kS42, kS43, kS51, kS52, kS53, List.getElem?_cons_zero, List.getElem?_cons_succ, List.set_cons_zero, List.set_cons_succ, List.length_cons, List.length_nil, List.drop_succ_cons, List.drop_zero, List.cons_append, List.nil_append, Option.toList_some, Option.toList_none, cz, ci2, true_and, and_true, and_self, true_or, or_true, nI_1, Nat.reduceAdd, Nat.reduceLT]
        refine ⟨fun h => absurd h (by decide), fun _ => ?_⟩
        refine ev_seg rfl ?_
        simp only [TE, sxs, sx, ldI, ldA, stI, stA, inc, gtF, ptF, ldX, stX, ldR, ldL, stL, dp1, dp2, Tm, kS0, kS1, kS2, kS3, kS4, kS5, kS6, kS7, kS8, kS9, kS10, kS11, kS12, kS13, kS14, kS15, kS16, kS17, kS18, kS19, kS20, kS21, kS22, kS23, kS24, kS25, kS26, kS27, kS28, kS30, kS31, kS32, kS33, kS34, kS35, kS36, kS37, kS38, kS39, kS40, kS41, kS42, kS43, kS51, kS52, kS53, List.getElem?_cons_zero, List.getElem?_cons_succ, List.set_cons_zero, List.set_cons_succ, List.length_cons, List.length_nil, List.drop_succ_cons, List.drop_zero, List.cons_append, List.nil_append, Option.toList_some, Option.toList_none, cz, ci2, true_and, and_true, and_self, true_or, or_true, nI_1, Nat.reduceAdd, Nat.reduceLT]
      · obtain ⟨Z, a1, a2, a3⟩ := hZ
        refine ⟨Z, ?_, a2, a3⟩
        rw [en36]
        refine ev_seg rfl ?_
        simp only [TE, sxs, sx, ldI, ldA, stI, stA, inc, gtF, ptF, ldX, stX, ldR, ldL, stL, dp1, dp2, Tm, kS0, kS1, kS2, kS3, kS4, kS5, kS6, kS7, kS8, kS9, kS10, kS11, kS12, kS13, kS14, kS15, kS16, kS17, kS18, kS19, kS20, kS21, kS22, kS23, kS24, kS25, kS26, kS27, kS28, kS30, kS31, kS32, kS33, kS34, kS35, kS36, kS37, kS38, kS39, kS40, kS41, kS42, kS43, kS51, kS52, kS53, List.getElem?_cons_zero, List.getElem?_cons_succ, List.set_cons_zero, List.set_cons_succ, List.length_cons, List.length_nil, List.drop_succ_cons, List.drop_zero, List.cons_append, List.nil_append, Option.toList_some, Option.toList_none, cz, ci2, true_and, and_true, and_self, true_or, or_true, nI_1, Nat.reduceAdd, Nat.reduceLT]
        refine cv1 rfl rfl (by first | exact rfl | exact trivial) (s_isPassed hO hn hw hm hp hb1 hb2) ?_
        rw [bI_f hc]
        refine ev_seg rfl ?_
        simp only [TE, sxs, sx, ldI, ldA, stI, stA, inc, gtF, ptF, ldX, stX, ldR, ldL, stL, dp1, dp2, Tm, kS0, kS1, kS2, kS3, kS4, kS5, kS6, kS7, kS8, kS9, kS10, kS11, kS12, kS13, kS14, kS15, kS16, kS17, kS18, kS19, kS20, kS21, kS22, kS23, kS24, kS25, kS26, kS27, kS28, kS30, kS31, kS32, kS33, kS34, kS35, kS36, kS37, kS38, kS39, kS40, kS41, kS42, kS43, kS51, kS52, kS53, List.getElem?_cons_zero, List.getElem?_cons_succ, List.set_cons_zero, List.set_cons_succ, List.length_cons, List.length_nil, List.drop_succ_cons, List.drop_zero, List.cons_append, List.nil_append, Option.toList_some, Option.toList_none, cz, ci2, true_and, and_true, and_self, true_or, or_true, nI_1, Nat.reduceAdd, Nat.reduceLT]
        refine ⟨fun _ => a1 hc, fun h => absurd trivial h⟩
    refine fin _ (fun hc => by rw [(all_pass _ γ hpR hc).2]; rfl) ?_
    by_cases hc2 : pl ≤ ct (fun s => decide (s ≠ w) && decide (γ w + mg ≤ γ s + 3 * rem (L.take (k + 1)).reverse s)) n
    · have loop : ∀ q, q ≤ 3 → ∀ (X1 : XT) (z4 : AV), lo3 (fun o => lowL (psd n w pl mg) (L.take k).reverse (gpl γ L[k] o)) (3 ^ k) q = lowL (psd n w pl mg) (L.take (k + 1)).reverse γ → Fr [23, 24] X X1 → OL X1 n w pl mg γ (rem (L.take (k + 1)).reverse) →
          ∃ Z, Ev sc (d + 2 + (k + 1)) 36 8 [vR 19 0 0, vI (nI (k + 1)), vI (-1), vI (nI (3 - q)), z4] [] X1 (.inl (some (.inl (oI (lowL (psd n w pl mg) (L.take (k + 1)).reverse γ))))) Z 0 ∧ Fr [23, 24] X Z ∧ OL Z n w pl mg γ (rem (L.take (k + 1)).reverse) := by
        intro q
        induction q with
        | zero =>
          intro _ X1 z4 hc hf hO1
          refine ⟨X1, ?_, hf, hO1⟩
          rw [← hc]
          refine ev_seg rfl ?_
          simp only [TE, sxs, sx, ldI, ldA, stI, stA, inc, gtF, ptF, ldX, stX, ldR, ldL, stL, dp1, dp2, Tm, kS0, kS1, kS2, kS3, kS4, kS5, kS6, kS7, kS8, kS9, kS10, kS11, kS12, kS13, kS14, kS15, kS16, kS17, kS18, kS19, kS20, kS21, kS22, kS23, kS24, kS25, kS26, kS27, kS28, kS30, kS31, kS32, kS33, kS34, kS35, kS36, kS37, kS38, kS39, kS40, kS41, kS42, kS43, kS51, kS52, kS53, List.getElem?_cons_zero, List.getElem?_cons_succ, List.set_cons_zero, List.set_cons_succ, List.length_cons, List.length_nil, List.drop_succ_cons, List.drop_zero, List.cons_append, List.nil_append, Option.toList_some, Option.toList_none, cz, ci2, true_and, and_true, and_self, true_or, or_true, nI_1, Nat.reduceAdd, Nat.reduceLT]
          refine ⟨fun _ => ?_, fun h => absurd (by decide) h⟩
          refine ev_seg rfl ?_
          simp only [TE, sxs, sx, ldI, ldA, stI, stA, inc, gtF, ptF, ldX, stX, ldR, ldL, stL, dp1, dp2, Tm, kS0, kS1, kS2, kS3, kS4, kS5, kS6, kS7, kS8, kS9, kS10, kS11, kS12, kS13, kS14, kS15, kS16, kS17, kS18, kS19, kS20, kS21, kS22, kS23, kS24, kS25, kS26, kS27, kS28, kS30, kS31, kS32, kS33, kS34, kS35, kS36, kS37, kS38, kS39, kS40, kS41, kS42, kS43, kS51, kS52, kS53, List.getElem?_cons_zero, List.getElem?_cons_succ, List.set_cons_zero, List.set_cons_succ, List.length_cons, List.length_nil, List.drop_succ_cons, List.drop_zero, List.cons_append, List.nil_append, Option.toList_some, Option.toList_none, cz, ci2, true_and, and_true, and_self, true_or, or_true, nI_1, Nat.reduceAdd, Nat.reduceLT]
          rfl
        | succ q ihq =>
          intro hq3 X1 z4 hc hf hO1
          have ho : 3 - (q + 1) < 3 := by omega
          have e2 : 2 - q = 3 - (q + 1) := by omega
          rw [lo3] at hc
          rw [e2] at hc
          obtain ⟨X2, a1, a2, a3⟩ := s_play (sc := sc) (d := d + k + 1) hO1 hn (hL.fr hf (by decide) (by decide)) hl hk1 hp3.1 hp3.2.1 ho
          rw [take_rev hk1, dpl_rem] at a3
          have f2 := hf.tr a2
          have hb3 : bd n (5000 - 3 * (k : Int)) (gpl γ L[k] (3 - (q + 1))) := fun i hi => by
            have h1 := hg i hi
            have h2 := gpl_bd hp3.2.2 (o := 3 - (q + 1)) γ i
            omega
          obtain ⟨X3, b1, b2, b3⟩ := ih X2 (gpl γ L[k] (3 - (q + 1))) (by omega) (hL.fr f2 (by decide) (by decide)) hb3 a3
          have f3 := f2.tr b2
          obtain ⟨X4, c1, c2, c3⟩ := s_takeBack (sc := sc) (d := d + k + 1) (γ := γ) (δ := rem (L.take (k + 1)).reverse) (X := X3) hn (hL.fr f3 (by decide) (by decide)) hl hk1 hp3.1 hp3.2.1 ho (by rw [take_rev hk1, dpl_rem]; exact b3)
          have dd1 : d + k + 1 + 1 = d + 2 + k := by omega
          rw [dd1] at a1 c1
          have pre : ∀ Z, Ev sc (d + 2 + (k + 1)) 36 13 [vR 19 0 0, vI (nI (k + 1)), vI (-1), vI (nI (3 - (q + 1))), vI (oI (lowL (psd n w pl mg) (L.take k).reverse (gpl γ L[k] (3 - (q + 1)))))] [] X4 (.inl (some (.inl (oI (lowL (psd n w pl mg) (L.take (k + 1)).reverse γ))))) Z 0 →
              Ev sc (d + 2 + (k + 1)) 36 8 [vR 19 0 0, vI (nI (k + 1)), vI (-1), vI (nI (3 - (q + 1))), z4] [] X1 (.inl (some (.inl (oI (lowL (psd n w pl mg) (L.take (k + 1)).reverse γ))))) Z 0 := by
            intro Z hZ
            refine ev_seg rfl ?_
            simp only [TE, sxs, sx, ldI, ldA, stI, stA, inc, gtF, ptF, ldX, stX, ldR, ldL, stL, dp1, dp2, Tm, kS0, kS1, kS2, kS3, kS4, kS5, kS6, kS7, kS8, kS9, kS10, kS11, kS12, kS13, kS14, kS15, kS16, kS17, kS18, kS19, kS20, kS21, kS22, kS23, kS24, kS25, kS26, kS27, kS28, kS30, kS31, kS32, kS33, kS34, kS35, kS36, kS37, kS38, kS39, kS40, kS41, kS42, kS43, kS51, kS52, kS53, List.getElem?_cons_zero, List.getElem?_cons_succ, List.set_cons_zero, List.set_cons_succ, List.length_cons, List.length_nil, List.drop_succ_cons, List.drop_zero, List.cons_append, List.nil_append, Option.toList_some, Option.toList_none, cz, ci2, true_and, and_true, and_self, true_or, or_true, nI_1, Nat.reduceAdd, Nat.reduceLT]
            refine ⟨fun h => absurd h (nle (b := 3) (by omega) (by decide)), fun _ => ?_⟩
            refine ev_seg rfl ?_
            simp only [TE, sxs, sx, ldI, ldA, stI, stA, inc, gtF, ptF, ldX, stX, ldR, ldL, stL, dp1, dp2, Tm, kS0, kS1, kS2, kS3, kS4, kS5, kS6, kS7, kS8, kS9, kS10, kS11, kS12, kS13, kS14, kS15, kS16, kS17, kS18, kS19, kS20, kS21, kS22, kS23, kS24, kS25, kS26, kS27, kS28, kS30, kS31, kS32, kS33, kS34, kS35, kS36, kS37, kS38, kS39, kS40, kS41, kS42, kS43, kS51, kS52, kS53, List.getElem?_cons_zero, List.getElem?_cons_succ, List.set_cons_zero, List.set_cons_succ, List.length_cons, List.length_nil, List.drop_succ_cons, List.drop_zero, List.cons_append, List.nil_append, Option.toList_some, Option.toList_none, cz, ci2, true_and, and_true, and_self, true_or, or_true, nI_1, Nat.reduceAdd, Nat.reduceLT]
            refine ⟨fun h => absurd trivial h, fun _ => ?_⟩
            refine ev_seg rfl ?_
            simp only [TE, sxs, sx, ldI, ldA, stI, stA, inc, gtF, ptF, ldX, stX, ldR, ldL, stL, dp1, dp2, Tm, kS0, kS1, kS2, kS3, kS4, kS5, kS6, kS7, kS8, kS9, kS10, kS11, kS12, kS13, kS14, kS15, kS16, kS17, kS18, kS19, kS20, kS21, kS22, kS23, kS24, kS25, kS26, kS27, kS28, kS30, kS31, kS32, kS33, kS34, kS35, kS36, kS37, kS38, kS39, kS40, kS41, kS42, kS43, kS51, kS52, kS53, List.getElem?_cons_zero, List.getElem?_cons_succ, List.set_cons_zero, List.set_cons_succ, List.length_cons, List.length_nil, List.drop_succ_cons, List.drop_zero, List.cons_append, List.nil_append, Option.toList_some, Option.toList_none, cz, ci2, true_and, and_true, and_self, true_or, or_true, nI_1, Nat.reduceAdd, Nat.reduceLT, nI_pr]
            refine cu3 rfl rfl (by first | exact rfl | exact trivial) (a1) ?_
            refine ev_seg rfl ?_
            simp only [TE, sxs, sx, ldI, ldA, stI, stA, inc, gtF, ptF, ldX, stX, ldR, ldL, stL, dp1, dp2, Tm, kS0, kS1, kS2, kS3, kS4, kS5, kS6, kS7, kS8, kS9, kS10, kS11, kS12, kS13, kS14, kS15, kS16, kS17, kS18, kS19, kS20, kS21, kS22, kS23, kS24, kS25, kS26, kS27, kS28, kS30, kS31, kS32, kS33, kS34, kS35, kS36, kS37, kS38, kS39, kS40, kS41, kS42, kS43, kS51, kS52, kS53, List.getElem?_cons_zero, List.getElem?_cons_succ, List.set_cons_zero, List.set_cons_succ, List.length_cons, List.length_nil, List.drop_succ_cons, List.drop_zero, List.cons_append, List.nil_append, Option.toList_some, Option.toList_none, cz, ci2, true_and, and_true, and_self, true_or, or_true, nI_1, Nat.reduceAdd, Nat.reduceLT, nI_pr]
            refine cv2 rfl rfl (by first | exact rfl | exact trivial) (b1) ?_
            refine ev_seg rfl ?_
            simp only [TE, sxs, sx, ldI, ldA, stI, stA, inc, gtF, ptF, ldX, stX, ldR, ldL, stL, dp1, dp2, Tm, kS0, kS1, kS2, kS3, kS4, kS5, kS6, kS7, kS8, kS9, kS10, kS11, kS12, kS13, kS14, kS15, kS16, kS17, kS18, kS19, kS20, kS21, kS22, kS23, kS24, kS25, kS26, kS27, kS28, kS30, kS31, kS32, kS33, kS34, kS35, kS36, kS37, kS38, kS39, kS40, kS41, kS42, kS43, kS51, kS52, kS53, List.getElem?_cons_zero, List.getElem?_cons_succ, List.set_cons_zero, List.set_cons_succ, List.length_cons, List.length_nil, List.drop_succ_cons, List.drop_zero, List.cons_append, List.nil_append, Option.toList_some, Option.toList_none, cz, ci2, true_and, and_true, and_self, true_or, or_true, nI_1, Nat.reduceAdd, Nat.reduceLT, nI_pr]
            refine cu3 rfl rfl (by first | exact rfl | exact trivial) (c1) ?_
            exact hZ
          cases hlow : lowL (psd n w pl mg) (L.take k).reverse (gpl γ L[k] (3 - (q + 1))) with
          | none =>
            rw [hlow] at hc
            obtain ⟨Z, d1, d2, d3⟩ := ihq (by omega) X4 (vI (-1)) hc (f3.tr c2) c3
            refine ⟨Z, pre Z ?_, d2, d3⟩
            rw [show 3 - q = 3 - (q + 1) + 1 by omega] at d1
            rw [hlow]
            refine ev_seg rfl ?_
            simp only [TE, sxs, sx, ldI, ldA, stI, stA, inc, gtF, ptF, ldX, stX, ldR, ldL, stL, dp1, dp2, Tm, kS0, kS1, kS2, kS3, kS4, kS5, kS6, kS7, kS8, kS9, kS10, kS11, kS12, kS13, kS14, kS15, kS16, kS17, kS18, kS19, kS20, kS21, kS22, kS23, kS24, kS25, kS26, kS27, kS28, kS30, kS31, kS32, kS33, kS34, kS35, kS36, kS37, kS38, kS39, kS40, kS41, kS42, kS43, kS51, kS52, kS53, List.getElem?_cons_zero, List.getElem?_cons_succ, List.set_cons_zero, List.set_cons_succ, List.length_cons, List.length_nil, List.drop_succ_cons, List.drop_zero, List.cons_append, List.nil_append, Option.toList_some, Option.toList_none, cz, ci2, true_and, and_true, and_self, true_or, or_true, nI_1, Nat.reduceAdd, Nat.reduceLT, oI]
            refine ⟨fun _ => ?_, fun h => absurd trivial h⟩
            refine ev_seg rfl ?_
            simp only [TE, sxs, sx, ldI, ldA, stI, stA, inc, gtF, ptF, ldX, stX, ldR, ldL, stL, dp1, dp2, Tm, kS0, kS1, kS2, kS3, kS4, kS5, kS6, kS7, kS8, kS9, kS10, kS11, kS12, kS13, kS14, kS15, kS16, kS17, kS18, kS19, kS20, kS21, kS22, kS23, kS24, kS25, kS26, kS27, kS28, kS30, kS31, kS32, kS33, kS34, kS35, kS36, kS37, kS38, kS39, kS40, kS41, kS42, kS43, kS51, kS52, kS53, List.getElem?_cons_zero, List.getElem?_cons_succ, List.set_cons_zero, List.set_cons_succ, List.length_cons, List.length_nil, List.drop_succ_cons, List.drop_zero, List.cons_append, List.nil_append, Option.toList_some, Option.toList_none, cz, ci2, true_and, and_true, and_self, true_or, or_true, nI_1, Nat.reduceAdd, Nat.reduceLT]
            exact d1
          | some x =>
            rw [hlow] at hc
            have hx := lowL_lt _ _ _ _ hlow
            rw [hlk] at hx
            have hj : (3 - (q + 1)) * 3 ^ k ≤ 2 * 3 ^ k := Nat.mul_le_mul_right _ (by omega)
            refine ⟨X4, pre X4 ?_, f3.tr c2, c3⟩
            rw [hlow, ← hc]
            have hne : ¬ nI ((3 - (q + 1)) * 3 ^ k + x) = -1 := nI_ne (by omega)
            have fin2 : Ev sc (d + 2 + (k + 1)) 36 8 [vR 19 0 0, vI (nI (k + 1)), vI (nI ((3 - (q + 1)) * 3 ^ k + x)), vI (nI (3 - (q + 1) + 1)), vI (nI x)] [] X4 (.inl (some (.inl (nI ((3 - (q + 1)) * 3 ^ k + x))))) X4 0 := by
              refine ev_seg rfl ?_
              simp only [TE, sxs, sx, ldI, ldA, stI, stA, inc, gtF, ptF, ldX, stX, ldR, ldL, stL, dp1, dp2, Tm, kS0, kS1, kS2, kS3, kS4, kS5, kS6, kS7, kS8, kS9, kS10, kS11, kS12, kS13, kS14, kS15, kS16, kS17, kS18, kS19, kS20, kS21, kS22, kS23, kS24, kS25, kS26, kS27, kS28, kS30, kS31, kS32, kS33, kS34, kS35, kS36, kS37, kS38, kS39, kS40, kS41, kS42, kS43, kS51, kS52, kS53, List.getElem?_cons_zero, List.getElem?_cons_succ, List.set_cons_zero, List.set_cons_succ, List.length_cons, List.length_nil, List.drop_succ_cons, List.drop_zero, List.cons_append, List.nil_append, Option.toList_some, Option.toList_none, cz, ci2, true_and, and_true, and_self, true_or, or_true, nI_1, Nat.reduceAdd, Nat.reduceLT]
              refine ⟨fun _ => ?_, fun _ => ?_⟩
              · refine ev_seg rfl ?_
                simp only [TE, sxs, sx, ldI, ldA, stI, stA, inc, gtF, ptF, ldX, stX, ldR, ldL, stL, dp1, dp2, Tm, kS0, kS1, kS2, kS3, kS4, kS5, kS6, kS7, kS8, kS9, kS10, kS11, kS12, kS13, kS14, kS15, kS16, kS17, kS18, kS19, kS20, kS21, kS22, kS23, kS24, kS25, kS26, kS27, kS28, kS30, kS31, kS32, kS33, kS34, kS35, kS36, kS37, kS38, kS39, kS40, kS41, kS42, kS43, kS51, kS52, kS53, List.getElem?_cons_zero, List.getElem?_cons_succ, List.set_cons_zero, List.set_cons_succ, List.length_cons, List.length_nil, List.drop_succ_cons, List.drop_zero, List.cons_append, List.nil_append, Option.toList_some, Option.toList_none, cz, ci2, true_and, and_true, and_self, true_or, or_true, nI_1, Nat.reduceAdd, Nat.reduceLT]
              · refine ev_seg rfl ?_
                simp only [TE, sxs, sx, ldI, ldA, stI, stA, inc, gtF, ptF, ldX, stX, ldR, ldL, stL, dp1, dp2, Tm, kS0, kS1, kS2, kS3, kS4, kS5, kS6, kS7, kS8, kS9, kS10, kS11, kS12, kS13, kS14, kS15, kS16, kS17, kS18, kS19, kS20, kS21, kS22, kS23, kS24, kS25, kS26, kS27, kS28, kS30, kS31, kS32, kS33, kS34, kS35, kS36, kS37, kS38, kS39, kS40, kS41, kS42, kS43, kS51, kS52, kS53, List.getElem?_cons_zero, List.getElem?_cons_succ, List.set_cons_zero, List.set_cons_succ, List.length_cons, List.length_nil, List.drop_succ_cons, List.drop_zero, List.cons_append, List.nil_append, Option.toList_some, Option.toList_none, cz, ci2, true_and, and_true, and_self, true_or, or_true, nI_1, Nat.reduceAdd, Nat.reduceLT]
                refine ⟨fun _ => ?_, fun h => absurd hne h⟩
                refine ev_seg rfl ?_
                simp only [TE, sxs, sx, ldI, ldA, stI, stA, inc, gtF, ptF, ldX, stX, ldR, ldL, stL, dp1, dp2, Tm, kS0, kS1, kS2, kS3, kS4, kS5, kS6, kS7, kS8, kS9, kS10, kS11, kS12, kS13, kS14, kS15, kS16, kS17, kS18, kS19, kS20, kS21, kS22, kS23, kS24, kS25, kS26, kS27, kS28, kS30, kS31, kS32, kS33, kS34, kS35, kS36, kS37, kS38, kS39, kS40, kS41, kS42, kS43, kS51, kS52, kS53, List.getElem?_cons_zero, List.getElem?_cons_succ, List.set_cons_zero, List.set_cons_succ, List.length_cons, List.length_nil, List.drop_succ_cons, List.drop_zero, List.cons_append, List.nil_append, Option.toList_some, Option.toList_none, cz, ci2, true_and, and_true, and_self, true_or, or_true, nI_1, Nat.reduceAdd, Nat.reduceLT]
            refine ev_seg rfl ?_
            simp only [TE, sxs, sx, ldI, ldA, stI, stA, inc, gtF, ptF, ldX, stX, ldR, ldL, stL, dp1, dp2, Tm, kS0, kS1, kS2, kS3, kS4, kS5, kS6, kS7, kS8, kS9, kS10, kS11, kS12, kS13, kS14, kS15, kS16, kS17, kS18, kS19, kS20, kS21, kS22, kS23, kS24, kS25, kS26, kS27, kS28, kS30, kS31, kS32, kS33, kS34, kS35, kS36, kS37, kS38, kS39, kS40, kS41, kS42, kS43, kS51, kS52, kS53, List.getElem?_cons_zero, List.getElem?_cons_succ, List.set_cons_zero, List.set_cons_succ, List.length_cons, List.length_nil, List.drop_succ_cons, List.drop_zero, List.cons_append, List.nil_append, Option.toList_some, Option.toList_none, cz, ci2, true_and, and_true, and_self, true_or, or_true, nI_1, Nat.reduceAdd, Nat.reduceLT, oI]
            refine ⟨fun h => absurd h (nI_ne (by omega)), fun _ => ?_⟩
            refine ev_seg rfl ?_
            simp only [TE, sxs, sx, ldI, ldA, stI, stA, inc, gtF, ptF, ldX, stX, ldR, ldL, stL, dp1, dp2, Tm, kS0, kS1, kS2, kS3, kS4, kS5, kS6, kS7, kS8, kS9, kS10, kS11, kS12, kS13, kS14, kS15, kS16, kS17, kS18, kS19, kS20, kS21, kS22, kS23, kS24, kS25, kS26, kS27, kS28, kS30, kS31, kS32, kS33, kS34, kS35, kS36, kS37, kS38, kS39, kS40, kS41, kS42, kS43, kS51, kS52, kS53, List.getElem?_cons_zero, List.getElem?_cons_succ, List.set_cons_zero, List.set_cons_succ, List.length_cons, List.length_nil, List.drop_succ_cons, List.drop_zero, List.cons_append, List.nil_append, Option.toList_some, Option.toList_none, cz, ci2, true_and, and_true, and_self, true_or, or_true, nI_1, Nat.reduceAdd, Nat.reduceLT, nI_pr]
            refine cv1 rfl rfl (by first | exact rfl | exact trivial) (s_waysOf (by omega)) ?_
            refine ev_seg rfl ?_
            simp only [TE, sxs, sx, ldI, ldA, stI, stA, inc, gtF, ptF, ldX, stX, ldR, ldL, stL, dp1, dp2, Tm, kS0, kS1, kS2, kS3, kS4, kS5, kS6, kS7, kS8, kS9, kS10, kS11, kS12, kS13, kS14, kS15, kS16, kS17, kS18, kS19, kS20, kS21, kS22, kS23, kS24, kS25, kS26, kS27, kS28, kS30, kS31, kS32, kS33, kS34, kS35, kS36, kS37, kS38, kS39, kS40, kS41, kS42, kS43, kS51, kS52, kS53, List.getElem?_cons_zero, List.getElem?_cons_succ, List.set_cons_zero, List.set_cons_succ, List.length_cons, List.length_nil, List.drop_succ_cons, List.drop_zero, List.cons_append, List.nil_append, Option.toList_some, Option.toList_none, cz, ci2, true_and, and_true, and_self, true_or, or_true, nI_1, Nat.reduceAdd, Nat.reduceLT, nI_ml, nI_ad]
            refine ev_seg rfl ?_
            simp only [TE, sxs, sx, ldI, ldA, stI, stA, inc, gtF, ptF, ldX, stX, ldR, ldL, stL, dp1, dp2, Tm, kS0, kS1, kS2, kS3, kS4, kS5, kS6, kS7, kS8, kS9, kS10, kS11, kS12, kS13, kS14, kS15, kS16, kS17, kS18, kS19, kS20, kS21, kS22, kS23, kS24, kS25, kS26, kS27, kS28, kS30, kS31, kS32, kS33, kS34, kS35, kS36, kS37, kS38, kS39, kS40, kS41, kS42, kS43, kS51, kS52, kS53, List.getElem?_cons_zero, List.getElem?_cons_succ, List.set_cons_zero, List.set_cons_succ, List.length_cons, List.length_nil, List.drop_succ_cons, List.drop_zero, List.cons_append, List.nil_append, Option.toList_some, Option.toList_none, cz, ci2, true_and, and_true, and_self, true_or, or_true, nI_1, Nat.reduceAdd, Nat.reduceLT]
            exact fin2
      obtain ⟨Z, a1, a2, a3⟩ := loop 3 (Nat.le_refl _) X av0 (by rw [take_rev hk1, lowL, hlk]) (Fr.rf _ _) hO
      refine ⟨Z, fun _ => ?_, a2, a3⟩
      refine ev_seg rfl ?_
      simp only [TE, sxs, sx, ldI, ldA, stI, stA, inc, gtF, ptF, ldX, stX, ldR, ldL, stL, dp1, dp2, Tm, kS0, kS1, kS2, kS3, kS4, kS5, kS6, kS7, kS8, kS9, kS10, kS11, kS12, kS13, kS14, kS15, kS16, kS17, kS18, kS19, kS20, kS21, kS22, kS23, kS24, kS25, kS26, kS27, kS28, kS30, kS31, kS32, kS33, kS34, kS35, kS36, kS37, kS38, kS39, kS40, kS41, kS42, kS43, kS51, kS52, kS53, List.getElem?_cons_zero, List.getElem?_cons_succ, List.set_cons_zero, List.set_cons_succ, List.length_cons, List.length_nil, List.drop_succ_cons, List.drop_zero, List.cons_append, List.nil_append, Option.toList_some, Option.toList_none, cz, ci2, true_and, and_true, and_self, true_or, or_true, nI_1, Nat.reduceAdd, Nat.reduceLT]
      refine ⟨fun h => absurd h (nle (a := 0) (by omega) (by omega)), fun _ => ?_⟩
      refine ev_seg rfl ?_
      simp only [TE, sxs, sx, ldI, ldA, stI, stA, inc, gtF, ptF, ldX, stX, ldR, ldL, stL, dp1, dp2, Tm, kS0, kS1, kS2, kS3, kS4, kS5, kS6, kS7, kS8, kS9, kS10, kS11, kS12, kS13, kS14, kS15, kS16, kS17, kS18, kS19, kS20, kS21, kS22, kS23, kS24, kS25, kS26, kS27, kS28, kS30, kS31, kS32, kS33, kS34, kS35, kS36, kS37, kS38, kS39, kS40, kS41, kS42, kS43, kS51, kS52, kS53, List.getElem?_cons_zero, List.getElem?_cons_succ, List.set_cons_zero, List.set_cons_succ, List.length_cons, List.length_nil, List.drop_succ_cons, List.drop_zero, List.cons_append, List.nil_append, Option.toList_some, Option.toList_none, cz, ci2, true_and, and_true, and_self, true_or, or_true, nI_1, Nat.reduceAdd, Nat.reduceLT]
      refine cv1 rfl rfl (by first | exact rfl | exact trivial) (s_canPass hO hn hw hm hp hb1 hb2) ?_
      rw [bI_t hc2]
      refine ev_seg rfl ?_
      simp only [TE, sxs, sx, ldI, ldA, stI, stA, inc, gtF, ptF, ldX, stX, ldR, ldL, stL, dp1, dp2, Tm, kS0, kS1, kS2, kS3, kS4, kS5, kS6, kS7, kS8, kS9, kS10, kS11, kS12, kS13, kS14, kS15, kS16, kS17, kS18, kS19, kS20, kS21, kS22, kS23, kS24, kS25, kS26, kS27, kS28, kS30, kS31, kS32, kS33, kS34, kS35, kS36, kS37, kS38, kS39, kS40, kS41, kS42, kS43, kS51, kS52, kS53, List.getElem?_cons_zero, List.getElem?_cons_succ, List.set_cons_zero, List.set_cons_succ, List.length_cons, List.length_nil, List.drop_succ_cons, List.drop_zero, List.cons_append, List.nil_append, Option.toList_some, Option.toList_none, cz, ci2, true_and, and_true, and_self, true_or, or_true, nI_1, Nat.reduceAdd, Nat.reduceLT]
      refine ⟨fun _ => ?_, fun h => absurd (by decide) h⟩
      refine ev_seg rfl ?_
      simp only [TE, sxs, sx, ldI, ldA, stI, stA, inc, gtF, ptF, ldX, stX, ldR, ldL, stL, dp1, dp2, Tm, kS0, kS1, kS2, kS3, kS4, kS5, kS6, kS7, kS8, kS9, kS10, kS11, kS12, kS13, kS14, kS15, kS16, kS17, kS18, kS19, kS20, kS21, kS22, kS23, kS24, kS25, kS26, kS27, kS28, kS30, kS31, kS32, kS33, kS34, kS35, kS36, kS37, kS38, kS39, kS40, kS41, kS42, kS43, kS51, kS52, kS53, List.getElem?_cons_zero, List.getElem?_cons_succ, List.set_cons_zero, List.set_cons_succ, List.length_cons, List.length_nil, List.drop_succ_cons, List.drop_zero, List.cons_append, List.nil_append, Option.toList_some, Option.toList_none, cz, ci2, true_and, and_true, and_self, true_or, or_true, nI_1, Nat.reduceAdd, Nat.reduceLT]
      exact a1
    · refine ⟨X, fun _ => ?_, Fr.rf _ _, hO⟩
      rw [(none_pass _ γ hpR hc2).2]
      refine ev_seg rfl ?_
      simp only [TE, sxs, sx, ldI, ldA, stI, stA, inc, gtF, ptF, ldX, stX, ldR, ldL, stL, dp1, dp2, Tm, kS0, kS1, kS2, kS3, kS4, kS5, kS6, kS7, kS8, kS9, kS10, kS11, kS12, kS13, kS14, kS15, kS16, kS17, kS18, kS19, kS20, kS21, kS22, kS23, kS24, kS25, kS26, kS27, kS28, kS30, kS31, kS32, kS33, kS34, kS35, kS36, kS37, kS38, kS39, kS40, kS41, kS42, kS43, kS51, kS52, kS53, List.getElem?_cons_zero, List.getElem?_cons_succ, List.set_cons_zero, List.set_cons_succ, List.length_cons, List.length_nil, List.drop_succ_cons, List.drop_zero, List.cons_append, List.nil_append, Option.toList_some, Option.toList_none, cz, ci2, true_and, and_true, and_self, true_or, or_true, nI_1, Nat.reduceAdd, Nat.reduceLT]
      refine ⟨fun h => absurd h (nle (a := 0) (by omega) (by omega)), fun _ => ?_⟩
      refine ev_seg rfl ?_
      simp only [TE, sxs, sx, ldI, ldA, stI, stA, inc, gtF, ptF, ldX, stX, ldR, ldL, stL, dp1, dp2, Tm, kS0, kS1, kS2, kS3, kS4, kS5, kS6, kS7, kS8, kS9, kS10, kS11, kS12, kS13, kS14, kS15, kS16, kS17, kS18, kS19, kS20, kS21, kS22, kS23, kS24, kS25, kS26, kS27, kS28, kS30, kS31, kS32, kS33, kS34, kS35, kS36, kS37, kS38, kS39, kS40, kS41, kS42, kS43, kS51, kS52, kS53, List.getElem?_cons_zero, List.getElem?_cons_succ, List.set_cons_zero, List.set_cons_succ, List.length_cons, List.length_nil, List.drop_succ_cons, List.drop_zero, List.cons_append, List.nil_append, Option.toList_some, Option.toList_none, cz, ci2, true_and, and_true, and_self, true_or, or_true, nI_1, Nat.reduceAdd, Nat.reduceLT]
      refine cv1 rfl rfl (by first | exact rfl | exact trivial) (s_canPass hO hn hw hm hp hb1 hb2) ?_
      rw [bI_f hc2]
      refine ev_seg rfl ?_
      simp only [TE, sxs, sx, ldI, ldA, stI, stA, inc, gtF, ptF, ldX, stX, ldR, ldL, stL, dp1, dp2, Tm, kS0, kS1, kS2, kS3, kS4, kS5, kS6, kS7, kS8, kS9, kS10, kS11, kS12, kS13, kS14, kS15, kS16, kS17, kS18, kS19, kS20, kS21, kS22, kS23, kS24, kS25, kS26, kS27, kS28, kS30, kS31, kS32, kS33, kS34, kS35, kS36, kS37, kS38, kS39, kS40, kS41, kS42, kS43, kS51, kS52, kS53, List.getElem?_cons_zero, List.getElem?_cons_succ, List.set_cons_zero, List.set_cons_succ, List.length_cons, List.length_nil, List.drop_succ_cons, List.drop_zero, List.cons_append, List.nil_append, Option.toList_some, Option.toList_none, cz, ci2, true_and, and_true, and_self, true_or, or_true, nI_1, Nat.reduceAdd, Nat.reduceLT]
      refine ⟨fun h => absurd trivial h, fun _ => ?_⟩
      refine ev_seg rfl ?_
      simp only [TE, sxs, sx, ldI, ldA, stI, stA, inc, gtF, ptF, ldX, stX, ldR, ldL, stL, dp1, dp2, Tm, kS0, kS1, kS2, kS3, kS4, kS5, kS6, kS7, kS8, kS9, kS10, kS11, kS12, kS13, kS14, kS15, kS16, kS17, kS18, kS19, kS20, kS21, kS22, kS23, kS24, kS25, kS26, kS27, kS28, kS30, kS31, kS32, kS33, kS34, kS35, kS36, kS37, kS38, kS39, kS40, kS41, kS42, kS43, kS51, kS52, kS53, List.getElem?_cons_zero, List.getElem?_cons_succ, List.set_cons_zero, List.set_cons_succ, List.length_cons, List.length_nil, List.drop_succ_cons, List.drop_zero, List.cons_append, List.nil_append, Option.toList_some, Option.toList_none, cz, ci2, true_and, and_true, and_self, true_or, or_true, nI_1, Nat.reduceAdd, Nat.reduceLT]
      rfl
/-- opening the outlook -/
theorem s_open {n w pl mg : Nat} (hN : X.1 2 0 g 5 = nI n) (hn : n ≤ 5) :
    ∃ Z, Ev sc (d + 3) 34 0 (ent 34 [vR 19 0 0, vR 2 0 g, vI (nI w), vI (nI pl), vI (nI mg)]) [] X (.inl none) Z 0 ∧ Fr [19, 23, 24] X Z ∧ OL Z n w pl mg (fun i => (PX X g n i).toInt) (fun i => (nI n - 1 - plSum X g (nI i) n).toInt) := by
  have loop : ∀ p, p ≤ n → ∀ X1 : XT, Fr [19, 23, 24] X X1 → X1.1 19 0 0 3 = nI n ∧ X1.1 19 0 0 4 = nI w ∧ X1.1 19 0 0 5 = nI pl ∧ X1.1 19 0 0 6 = nI mg → (∀ i, i < p → X1.1 23 0 0 (nI i) = PX X g n i) → (∀ i, i < p → X1.1 24 0 0 (nI i) = nI n - 1 - plSum X g (nI i) n) →
      ∃ Z, Ev sc (d + 3) 34 2 [vR 19 0 0, vR 2 0 g, vI (nI w), vI (nI pl), vI (nI mg), vI (nI p)] [] X1 (.inl none) Z 0 ∧ Fr [19, 23, 24] X Z ∧ OL Z n w pl mg (fun i => (PX X g n i).toInt) (fun i => (nI n - 1 - plSum X g (nI i) n).toInt) := by
    apply loop_up
    · intro X1 hf h0 h1 h2
      refine ⟨X1, ?_, hf, h0.1, h0.2.1, h0.2.2.1, h0.2.2.2, fun i hi => by rw [zI, Int32.ofInt_toInt]; exact h1 i hi, fun i hi => by rw [zI, Int32.ofInt_toInt]; exact h2 i hi⟩
      refine ev_seg rfl ?_
      simp only [TE, sxs, sx, ldI, ldA, stI, stA, inc, gtF, ptF, ldX, stX, ldR, ldL, stL, dp1, dp2, Tm, kS0, kS1, kS2, kS3, kS4, kS5, kS6, kS7, kS8, kS9, kS10, kS11, kS12, kS13, kS14, kS15, kS16, kS17, kS18, kS19, kS20, kS21, kS22, kS23, kS24, kS25, kS26, kS27, kS28, kS30, kS31, kS32, kS33, kS34, kS35, kS36, kS37, kS38, kS39, kS40, kS41, kS42, kS43, kS51, kS52, kS53, List.getElem?_cons_zero, List.getElem?_cons_succ, List.set_cons_zero, List.set_cons_succ, List.length_cons, List.length_nil, List.drop_succ_cons, List.drop_zero, List.cons_append, List.nil_append, Option.toList_some, Option.toList_none, cz, ci2, true_and, and_true, and_self, true_or, or_true, nI_1, Nat.reduceAdd, Nat.reduceLT, h0.1]
      refine ⟨fun _ => ?_, fun h => absurd (nleI (Nat.le_refl _) (by omega)) h⟩
      refine ev_seg rfl ?_
      simp only [TE, sxs, sx, ldI, ldA, stI, stA, inc, gtF, ptF, ldX, stX, ldR, ldL, stL, dp1, dp2, Tm, kS0, kS1, kS2, kS3, kS4, kS5, kS6, kS7, kS8, kS9, kS10, kS11, kS12, kS13, kS14, kS15, kS16, kS17, kS18, kS19, kS20, kS21, kS22, kS23, kS24, kS25, kS26, kS27, kS28, kS30, kS31, kS32, kS33, kS34, kS35, kS36, kS37, kS38, kS39, kS40, kS41, kS42, kS43, kS51, kS52, kS53, List.getElem?_cons_zero, List.getElem?_cons_succ, List.set_cons_zero, List.set_cons_succ, List.length_cons, List.length_nil, List.drop_succ_cons, List.drop_zero, List.cons_append, List.nil_append, Option.toList_some, Option.toList_none, cz, ci2, true_and, and_true, and_self, true_or, or_true, nI_1, Nat.reduceAdd, Nat.reduceLT]
    · intro p hp ih X1 hf h0 h1 h2
      have vp : vp_in (nI p) 5 := vpn (by omega) (by decide)
      have rN : X1.1 2 0 g 5 = nI n := by rw [hf.at 2 (by decide)]; exact hN
      have eP : rowSum X1 g (nI p) (evy n) pF n - X1.1 5 0 g (nI p) = PX X g n p := by
        rw [rowSum_all hn, scC_fr hf (by decide), hf.at 5 (by decide)]; rfl
      have r3 : xs X1.1 23 0 0 (nI p) (PX X g n p) 19 0 0 3 = nI n := by
        rw [show xs X1.1 23 0 0 (nI p) (PX X g n p) 19 0 0 = X1.1 19 0 0 from xs_ne _ _ _ (by simp)]
        exact h0.1
      generalize hX2 : ((xs X1.1 23 0 0 (nI p) (PX X g n p), X1.2) : XT) = X2
      have f2 : Fr [23] X1 X2 := by rw [← hX2]; exact Fr.xs _ _ _ _ _ (List.mem_singleton.mpr rfl)
      have f2' := hf.tr (f2.mo (by decide))
      have rN2 : X2.1 2 0 g 5 = nI n := by rw [f2'.at 2 (by decide)]; exact hN
      have eQ : plSum X2 g (nI p) n = plSum X g (nI p) n := sumN_congr fun j _ => by rw [f2'.at 4 (by decide)]
      generalize hX3 : ((xs X2.1 24 0 0 (nI p) (nI n - 1 - plSum X g (nI p) n), X2.2) : XT) = X3
      have f3 : Fr [24] X2 X3 := by rw [← hX3]; exact Fr.xs _ _ _ _ _ (List.mem_singleton.mpr rfl)
      have r19 : ∀ j, X2.1 19 0 0 j = X1.1 19 0 0 j := fun j => f2.at 19 (by decide) _ _ _
      have r19' : ∀ j, X3.1 19 0 0 j = X1.1 19 0 0 j := fun j => (f3.at 19 (by decide) _ _ _).trans (r19 j)
      obtain ⟨Z, a1, a2, a3⟩ := ih X3 (f2'.tr (f3.mo (by decide))) ⟨by rw [r19']; exact h0.1, by rw [r19']; exact h0.2.1, by rw [r19']; exact h0.2.2.1, by rw [r19']; exact h0.2.2.2⟩
        (fun i hi => by
          rw [f3.at 23 (by decide), ← hX2]
          show xs X1.1 23 0 0 (nI p) (PX X g n p) 23 0 0 (nI i) = _
          by_cases hip : i = p
          · rw [hip, xs_self]
          · rw [xs_nj _ _ _ _ _ (fun q => hip (nI_inj (by omega) (by omega) q))]
            exact h1 i (by omega))
        (fun i hi => by
          rw [← hX3]
          show xs X2.1 24 0 0 (nI p) (nI n - 1 - plSum X g (nI p) n) 24 0 0 (nI i) = _
          by_cases hip : i = p
          · rw [hip, xs_self]
          · rw [xs_nj _ _ _ _ _ (fun q => hip (nI_inj (by omega) (by omega) q)), f2.at 24 (by decide)]
            exact h2 i (by omega))
      refine ⟨Z, ?_, a2, a3⟩
      refine ev_seg rfl ?_
      simp only [TE, sxs, sx, ldI, ldA, stI, stA, inc, gtF, ptF, ldX, stX, ldR, ldL, stL, dp1, dp2, Tm, kS0, kS1, kS2, kS3, kS4, kS5, kS6, kS7, kS8, kS9, kS10, kS11, kS12, kS13, kS14, kS15, kS16, kS17, kS18, kS19, kS20, kS21, kS22, kS23, kS24, kS25, kS26, kS27, kS28, kS30, kS31, kS32, kS33, kS34, kS35, kS36, kS37, kS38, kS39, kS40, kS41, kS42, kS43, kS51, kS52, kS53, List.getElem?_cons_zero, List.getElem?_cons_succ, List.set_cons_zero, List.set_cons_succ, List.length_cons, List.length_nil, List.drop_succ_cons, List.drop_zero, List.cons_append, List.nil_append, Option.toList_some, Option.toList_none, cz, ci2, true_and, and_true, and_self, true_or, or_true, nI_1, Nat.reduceAdd, Nat.reduceLT, h0.1]
      refine ⟨fun h => absurd h (nle hp (by omega)), fun _ => ?_⟩
      refine ev_seg rfl ?_
      simp only [TE, sxs, sx, ldI, ldA, stI, stA, inc, gtF, ptF, ldX, stX, ldR, ldL, stL, dp1, dp2, Tm, kS0, kS1, kS2, kS3, kS4, kS5, kS6, kS7, kS8, kS9, kS10, kS11, kS12, kS13, kS14, kS15, kS16, kS17, kS18, kS19, kS20, kS21, kS22, kS23, kS24, kS25, kS26, kS27, kS28, kS30, kS31, kS32, kS33, kS34, kS35, kS36, kS37, kS38, kS39, kS40, kS41, kS42, kS43, kS51, kS52, kS53, List.getElem?_cons_zero, List.getElem?_cons_succ, List.set_cons_zero, List.set_cons_succ, List.length_cons, List.length_nil, List.drop_succ_cons, List.drop_zero, List.cons_append, List.nil_append, Option.toList_some, Option.toList_none, cz, ci2, true_and, and_true, and_self, true_or, or_true, nI_1, Nat.reduceAdd, Nat.reduceLT]
      refine cv2 rfl rfl (by first | exact rfl | exact trivial) (s_pointsOf rN hn vp) ?_
      rw [eP]
      refine ev_seg rfl ?_
      simp only [TE, sxs, sx, ldI, ldA, stI, stA, inc, gtF, ptF, ldX, stX, ldR, ldL, stL, dp1, dp2, Tm, kS0, kS1, kS2, kS3, kS4, kS5, kS6, kS7, kS8, kS9, kS10, kS11, kS12, kS13, kS14, kS15, kS16, kS17, kS18, kS19, kS20, kS21, kS22, kS23, kS24, kS25, kS26, kS27, kS28, kS30, kS31, kS32, kS33, kS34, kS35, kS36, kS37, kS38, kS39, kS40, kS41, kS42, kS43, kS51, kS52, kS53, List.getElem?_cons_zero, List.getElem?_cons_succ, List.set_cons_zero, List.set_cons_succ, List.length_cons, List.length_nil, List.drop_succ_cons, List.drop_zero, List.cons_append, List.nil_append, Option.toList_some, Option.toList_none, cz, ci2, true_and, and_true, and_self, true_or, or_true, nI_1, Nat.reduceAdd, Nat.reduceLT]
      rw [hX2]
      refine ⟨(by first | assumption | (and_intros <;> first | assumption | trivial | decide)), ?_⟩
      rw [r3]
      refine cv2 rfl rfl (by first | exact rfl | exact trivial) (s_playedBy rN2 hn vp) ?_
      rw [eQ]
      refine ev_seg rfl ?_
      simp only [TE, sxs, sx, ldI, ldA, stI, stA, inc, gtF, ptF, ldX, stX, ldR, ldL, stL, dp1, dp2, Tm, kS0, kS1, kS2, kS3, kS4, kS5, kS6, kS7, kS8, kS9, kS10, kS11, kS12, kS13, kS14, kS15, kS16, kS17, kS18, kS19, kS20, kS21, kS22, kS23, kS24, kS25, kS26, kS27, kS28, kS30, kS31, kS32, kS33, kS34, kS35, kS36, kS37, kS38, kS39, kS40, kS41, kS42, kS43, kS51, kS52, kS53, List.getElem?_cons_zero, List.getElem?_cons_succ, List.set_cons_zero, List.set_cons_succ, List.length_cons, List.length_nil, List.drop_succ_cons, List.drop_zero, List.cons_append, List.nil_append, Option.toList_some, Option.toList_none, cz, ci2, true_and, and_true, and_self, true_or, or_true, nI_1, Nat.reduceAdd, Nat.reduceLT]
      rw [hX3]
      exact ⟨(by first | assumption | (and_intros <;> first | assumption | trivial | decide)), a1⟩
  generalize hY : ((xs (xs (xs (xs X.1 19 0 0 3 (nI n)) 19 0 0 4 (nI w)) 19 0 0 5 (nI pl)) 19 0 0 6 (nI mg), X.2) : XT) = Y
  have fY : Fr [19, 23, 24] X Y := by
    rw [← hY]
    exact (((Fr.xs X 0 0 3 (nI n) (by decide : 19 ∈ [19, 23, 24])).tr (Fr.xs (xs X.1 19 0 0 3 (nI n), X.2) 0 0 4 (nI w) (by decide : 19 ∈ [19, 23, 24]))).tr (Fr.xs (xs (xs X.1 19 0 0 3 (nI n)) 19 0 0 4 (nI w), X.2) 0 0 5 (nI pl) (by decide : 19 ∈ [19, 23, 24]))).tr (Fr.xs (xs (xs (xs X.1 19 0 0 3 (nI n)) 19 0 0 4 (nI w)) 19 0 0 5 (nI pl), X.2) 0 0 6 (nI mg) (by decide : 19 ∈ [19, 23, 24]))
  obtain ⟨Z, a1, a2, a3⟩ := loop 0 (Nat.zero_le _) Y fY (by
    rw [← hY]
    refine ⟨?_, ?_, ?_, ?_⟩
    · show xs (xs (xs (xs X.1 19 0 0 3 (nI n)) 19 0 0 4 (nI w)) 19 0 0 5 (nI pl)) 19 0 0 6 (nI mg) 19 0 0 3 = _
      rw [xs_nj _ _ _ _ _ (by decide), xs_nj _ _ _ _ _ (by decide), xs_nj _ _ _ _ _ (by decide), xs_self]
    · show xs (xs (xs (xs X.1 19 0 0 3 (nI n)) 19 0 0 4 (nI w)) 19 0 0 5 (nI pl)) 19 0 0 6 (nI mg) 19 0 0 4 = _
      rw [xs_nj _ _ _ _ _ (by decide), xs_nj _ _ _ _ _ (by decide), xs_self]
    · show xs (xs (xs (xs X.1 19 0 0 3 (nI n)) 19 0 0 4 (nI w)) 19 0 0 5 (nI pl)) 19 0 0 6 (nI mg) 19 0 0 5 = _
      rw [xs_nj _ _ _ _ _ (by decide), xs_self]
    · show xs (xs (xs (xs X.1 19 0 0 3 (nI n)) 19 0 0 4 (nI w)) 19 0 0 5 (nI pl)) 19 0 0 6 (nI mg) 19 0 0 6 = _
      rw [xs_self]) (fun i hi => absurd hi (by omega)) (fun i hi => absurd hi (by omega))
  refine ⟨Z, ?_, a2, a3⟩
  rw [en34]
  refine ev_seg rfl ?_
  simp only [TE, sxs, sx, ldI, ldA, stI, stA, inc, gtF, ptF, ldX, stX, ldR, ldL, stL, dp1, dp2, Tm, kS0, kS1, kS2, kS3, kS4, kS5, kS6, kS7, kS8, kS9, kS10, kS11, kS12, kS13, kS14, kS15, kS16, kS17, kS18, kS19, kS20, kS21, kS22, kS23, kS24, kS25, kS26, kS27, kS28, kS30, kS31, kS32, kS33, kS34, kS35, kS36, kS37, kS38, kS39, kS40, kS41, kS42, kS43, kS51, kS52, kS53, List.getElem?_cons_zero, List.getElem?_cons_succ, List.set_cons_zero, List.set_cons_succ, List.length_cons, List.length_nil, List.drop_succ_cons, List.drop_zero, List.cons_append, List.nil_append, Option.toList_some, Option.toList_none, cz, ci2, true_and, and_true, and_self, true_or, or_true, nI_1, Nat.reduceAdd, Nat.reduceLT]
  refine cv1 rfl rfl (by first | exact rfl | exact trivial) (s_size) ?_
  rw [hN]
  refine ev_seg rfl ?_
  simp only [TE, sxs, sx, ldI, ldA, stI, stA, inc, gtF, ptF, ldX, stX, ldR, ldL, stL, dp1, dp2, Tm, kS0, kS1, kS2, kS3, kS4, kS5, kS6, kS7, kS8, kS9, kS10, kS11, kS12, kS13, kS14, kS15, kS16, kS17, kS18, kS19, kS20, kS21, kS22, kS23, kS24, kS25, kS26, kS27, kS28, kS30, kS31, kS32, kS33, kS34, kS35, kS36, kS37, kS38, kS39, kS40, kS41, kS42, kS43, kS51, kS52, kS53, List.getElem?_cons_zero, List.getElem?_cons_succ, List.set_cons_zero, List.set_cons_succ, List.length_cons, List.length_nil, List.drop_succ_cons, List.drop_zero, List.cons_append, List.nil_append, Option.toList_some, Option.toList_none, cz, ci2, true_and, and_true, and_self, true_or, or_true, nI_1, Nat.reduceAdd, Nat.reduceLT]
  rw [hY]
  exact a1
end Lwy
