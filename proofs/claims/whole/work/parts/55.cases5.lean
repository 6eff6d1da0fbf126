/-! the law: rule -/
section Ca5
variable {sc : SC} {d : Nat} {Y : XT} {c lp lt : Nat} {bs nn : Nat → Nat}
theorem no_pair (h : CI Y c bs nn lp lt) {v w : Int32} (hno : ¬ (isT bs c v ∧ isT bs c w)) : ∀ d, Ev sc (d + 2) 88 0 (ent 88 [vR 0 0 0, vI v, vI w]) [] Y (.inr 0) Y 1 := by
  intro d
  by_cases h1 : isT bs c v
  · obtain ⟨j, a, hj, ha, rfl⟩ := h.team h1
    exact s_pairX2 h hj ha (fun w2 => hno ⟨h1, w2⟩)
  · exact s_pairX1 h h1
theorem cs133 (h : BI Y c bs nn lp lt) {i : Int32} (hv : vp_in (i + 1) sc.1) (hv2 : vp_in (i + 2) sc.1) : CS sc d 133 Y i := by
  intro z5 z6
  by_cases ht : isT bs c (rd sc (i + 1)) ∧ isT bs c (rd sc (i + 2))
  · obtain ⟨j, a, hj, ha, e⟩ := h.1.team ht.1
    obtain ⟨j', b, hj', hb, e2⟩ := h.1.team ht.2
    by_cases hp : bs j + a ≠ bs j' + b ∧ j = j'
    · obtain ⟨hne, rfl⟩ := hp
      have hab : a ≠ b := fun q => hne (by rw [q])
      obtain ⟨Z1, a1, f1⟩ := s_rule (sc := sc) (d := 0) h.1 hj ha hb hab
      have h1 : BI ((Z1.1, (nI (RTX Y (nI j) (nn j) a b)).toInt64) : XT) c bs nn lp lt := (h.fr f1 (by decide)).snd _
      obtain ⟨X', m1, m2⟩ := s_Mrule (sc := sc) (d := 0) h1.2.1 hj ha hb hab
      have he : RTM ((Z1.1, (nI (RTX Y (nI j) (nn j) a b)).toInt64) : XT) (bs j) (nn j) a b = RTX Y (nI j) (nn j) a b := (h1.2.2.1.rt h1.1 hj ha hb).trans (congrFun (congrFun (RTX_fr f1 (by decide) (by decide) (by decide) (by decide) (by decide)) a) b)
      rw [he] at m1
      have r16 : X'.1 30 0 0 16 = 0 := (m2.at 30 (by decide) _ _ _).trans (th_16 _ _)
      have r2 : X'.2 = (nI (RTX Y (nI j) (nn j) a b)).toInt64 := m2.1
      have h3 := (h1.th 0).fr m2 (by decide)
      refine ⟨X', 0, vI 0, vI (nI (RTX Y (nI j) (nn j) a b)), ⟨c, bs, nn, lp, lt, h3⟩, by omega, fun o Z k2 hn => ?_⟩
      rw [Nat.zero_add]
      refine ev_seg rfl ?_
      simp only [TE, sxs, sx, ldI, ldA, stI, stA, inc, gtF, ptF, ldX, stX, ldR, ldL, stL, dp1, dp2, Tm, kS0, kS1, kS2, kS3, kS4, kS5, kS6, kS7, kS8, kS9, kS10, kS11, kS12, kS13, kS14, kS15, kS16, kS17, kS18, kS19, kS20, kS21, kS22, kS23, kS24, kS25, kS26, kS27, kS28, kS30, kS31, kS32, kS33, kS34, kS35, kS36, kS37, kS38, kS39, kS40, kS41, kS42, kS43, kS51, kS52, kS53, List.getElem?_cons_zero, List.getElem?_cons_succ, List.set_cons_zero, List.set_cons_succ, List.length_cons, List.length_nil, List.drop_succ_cons, List.drop_zero, List.cons_append, List.nil_append, Option.toList_some, Option.toList_none, cz, ci2, true_and, and_true, and_self, true_or, or_true, nI_1, Nat.reduceAdd, Nat.reduceLT, show roV sc 53 (i + 1).toNatClampNeg = nI (bs j + a) from e, show roV sc 53 (i + 2).toNatClampNeg = nI (bs j + b) from e2, roN]
      refine ⟨(by first | assumption | (and_intros <;> first | assumption | trivial | decide)), ?_⟩
      refine cv4 rfl rfl (by first | exact rfl | exact trivial) (Ev_d (d' := d + 39) (w_ok157 (d := 12) a1) (by omega)) ?_
      refine ev_seg rfl ?_
      simp only [TE, sxs, sx, ldI, ldA, stI, stA, inc, gtF, ptF, ldX, stX, ldR, ldL, stL, dp1, dp2, Tm, kS0, kS1, kS2, kS3, kS4, kS5, kS6, kS7, kS8, kS9, kS10, kS11, kS12, kS13, kS14, kS15, kS16, kS17, kS18, kS19, kS20, kS21, kS22, kS23, kS24, kS25, kS26, kS27, kS28, kS30, kS31, kS32, kS33, kS34, kS35, kS36, kS37, kS38, kS39, kS40, kS41, kS42, kS43, kS51, kS52, kS53, List.getElem?_cons_zero, List.getElem?_cons_succ, List.set_cons_zero, List.set_cons_succ, List.length_cons, List.length_nil, List.drop_succ_cons, List.drop_zero, List.cons_append, List.nil_append, Option.toList_some, Option.toList_none, cz, ci2, true_and, and_true, and_self, true_or, or_true, nI_1, Nat.reduceAdd, Nat.reduceLT, show roV sc 53 (i + 1).toNatClampNeg = nI (bs j + a) from e, show roV sc 53 (i + 2).toNatClampNeg = nI (bs j + b) from e2, roN]
      refine ⟨(by first | assumption | (and_intros <;> first | assumption | trivial | decide)), ?_⟩
      refine cv3 rfl rfl (by first | exact rfl | exact trivial) (Ev_d (d' := d + 39) m1 (by omega)) ?_
      exact ck133 r16 (fun _ => r2) hn
    · have hp3 : j ≠ j' ∨ a = b := by
        by_cases hjj : j = j'
        · subst hjj
          refine Or.inr (Classical.byContradiction fun q => hp ⟨by omega, rfl⟩)
        · exact Or.inl hjj
      refine ⟨th Y 2, 1, vI 2, vI 0, ⟨c, bs, nn, lp, lt, h.th 2⟩, by omega, fun o Z k2 hn => ?_⟩
      refine ev_seg rfl ?_
      simp only [TE, sxs, sx, ldI, ldA, stI, stA, inc, gtF, ptF, ldX, stX, ldR, ldL, stL, dp1, dp2, Tm, kS0, kS1, kS2, kS3, kS4, kS5, kS6, kS7, kS8, kS9, kS10, kS11, kS12, kS13, kS14, kS15, kS16, kS17, kS18, kS19, kS20, kS21, kS22, kS23, kS24, kS25, kS26, kS27, kS28, kS30, kS31, kS32, kS33, kS34, kS35, kS36, kS37, kS38, kS39, kS40, kS41, kS42, kS43, kS51, kS52, kS53, List.getElem?_cons_zero, List.getElem?_cons_succ, List.set_cons_zero, List.set_cons_succ, List.length_cons, List.length_nil, List.drop_succ_cons, List.drop_zero, List.cons_append, List.nil_append, Option.toList_some, Option.toList_none, cz, ci2, true_and, and_true, and_self, true_or, or_true, nI_1, Nat.reduceAdd, Nat.reduceLT, show roV sc 53 (i + 1).toNatClampNeg = nI (bs j + a) from e, show roV sc 53 (i + 2).toNatClampNeg = nI (bs j' + b) from e2, roN]
      refine ⟨(by first | assumption | (and_intros <;> first | assumption | trivial | decide)), ?_⟩
      refine cl_retk rfl rfl rfl (by first | exact rfl | exact trivial) (Ev_d (d' := d + 39) (w_th157_1 (d := 3) (s_ruleP (d := 0) (fun d => s_pairX3 h.1 hj ha hj' hb hp3))) (by omega)) ?_
      refine ev_seg rfl ?_
      simp only [TE, sxs, sx, ldI, ldA, stI, stA, inc, gtF, ptF, ldX, stX, ldR, ldL, stL, dp1, dp2, Tm, kS0, kS1, kS2, kS3, kS4, kS5, kS6, kS7, kS8, kS9, kS10, kS11, kS12, kS13, kS14, kS15, kS16, kS17, kS18, kS19, kS20, kS21, kS22, kS23, kS24, kS25, kS26, kS27, kS28, kS30, kS31, kS32, kS33, kS34, kS35, kS36, kS37, kS38, kS39, kS40, kS41, kS42, kS43, kS51, kS52, kS53, List.getElem?_cons_zero, List.getElem?_cons_succ, List.set_cons_zero, List.set_cons_succ, List.length_cons, List.length_nil, List.drop_succ_cons, List.drop_zero, List.cons_append, List.nil_append, Option.toList_some, Option.toList_none, cz, ci2, true_and, and_true, and_self, true_or, or_true, nI_1, Nat.reduceAdd, Nat.reduceLT, show roV sc 53 (i + 1).toNatClampNeg = nI (bs j + a) from e, show roV sc 53 (i + 2).toNatClampNeg = nI (bs j' + b) from e2, roN]
      refine ⟨(by first | assumption | (and_intros <;> first | assumption | trivial | decide)), ?_⟩
      refine cv3 rfl rfl (by first | exact rfl | exact trivial) (Ev_d (d' := d + 39) (s_MruleX (d := 0) h.2.1 hj ha hj' hb hp) (by omega)) ?_
      exact ck133 (th_16 _ _) (fun w => absurd w (by decide)) hn
  · refine ⟨th Y 1, 1, vI 1, vI 0, ⟨c, bs, nn, lp, lt, h.th 1⟩, by omega, fun o Z k2 hn => ?_⟩
    refine ev_seg rfl ?_
    simp only [TE, sxs, sx, ldI, ldA, stI, stA, inc, gtF, ptF, ldX, stX, ldR, ldL, stL, dp1, dp2, Tm, kS0, kS1, kS2, kS3, kS4, kS5, kS6, kS7, kS8, kS9, kS10, kS11, kS12, kS13, kS14, kS15, kS16, kS17, kS18, kS19, kS20, kS21, kS22, kS23, kS24, kS25, kS26, kS27, kS28, kS30, kS31, kS32, kS33, kS34, kS35, kS36, kS37, kS38, kS39, kS40, kS41, kS42, kS43, kS51, kS52, kS53, List.getElem?_cons_zero, List.getElem?_cons_succ, List.set_cons_zero, List.set_cons_succ, List.length_cons, List.length_nil, List.drop_succ_cons, List.drop_zero, List.cons_append, List.nil_append, Option.toList_some, Option.toList_none, cz, ci2, true_and, and_true, and_self, true_or, or_true, nI_1, Nat.reduceAdd, Nat.reduceLT, roN]
    refine ⟨(by first | assumption | (and_intros <;> first | assumption | trivial | decide)), ?_⟩
    refine cl_retk rfl rfl rfl (by first | exact rfl | exact trivial) (Ev_d (d' := d + 39) (w_th157_0 (d := 3) (s_ruleP (d := 0) (no_pair h.1 ht))) (by omega)) ?_
    refine ev_seg rfl ?_
    simp only [TE, sxs, sx, ldI, ldA, stI, stA, inc, gtF, ptF, ldX, stX, ldR, ldL, stL, dp1, dp2, Tm, kS0, kS1, kS2, kS3, kS4, kS5, kS6, kS7, kS8, kS9, kS10, kS11, kS12, kS13, kS14, kS15, kS16, kS17, kS18, kS19, kS20, kS21, kS22, kS23, kS24, kS25, kS26, kS27, kS28, kS30, kS31, kS32, kS33, kS34, kS35, kS36, kS37, kS38, kS39, kS40, kS41, kS42, kS43, kS51, kS52, kS53, List.getElem?_cons_zero, List.getElem?_cons_succ, List.set_cons_zero, List.set_cons_succ, List.length_cons, List.length_nil, List.drop_succ_cons, List.drop_zero, List.cons_append, List.nil_append, Option.toList_some, Option.toList_none, cz, ci2, true_and, and_true, and_self, true_or, or_true, nI_1, Nat.reduceAdd, Nat.reduceLT, roN]
    refine ⟨(by first | assumption | (and_intros <;> first | assumption | trivial | decide)), ?_⟩
    refine cv3 rfl rfl (by first | exact rfl | exact trivial) (Ev_d (d' := d + 39) (s_MnoPair125 (d := 0) h.2.1 ht) (by omega)) ?_
    exact ck133 (th_16 _ _) (fun w => absurd w (by decide)) hn
end Ca5
