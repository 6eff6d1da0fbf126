/-! the law: teamAt -/
section Ca4
variable {sc : SC} {d : Nat} {Y : XT} {c lp lt : Nat} {bs nn : Nat → Nat}
theorem cs124 (h : BI Y c bs nn lp lt) {i : Int32} (hv : vp_in (i + 1) sc.1) (hv2 : vp_in (i + 2) sc.1) : CS sc d 124 Y i := by
  intro z5 z6
  by_cases ht : ∃ j p, j < c ∧ p < nn j ∧ rd sc (i + 1) = nI j ∧ rd sc (i + 2) = nI p
  · obtain ⟨j, p, hj, hp, e, e2⟩ := ht
    obtain ⟨Z1, a, a1, f1, ha, hpt⟩ := s_teamAt (sc := sc) (d := 0) h.1 hj hp
    have h1 : BI ((Z1.1, (nI (bs j + a)).toInt64) : XT) c bs nn lp lt := (h.fr f1 (by decide)).snd _
    have ht2 : PTM ((Z1.1, (nI (bs j + a)).toInt64) : XT) (bs j) (nn j) a = p := (h1.2.2.1.pt h1.1 hj ha).trans ((congrFun (PTX_fr f1 (by decide) (by decide) (by decide) (by decide) (by decide)) a).trans hpt)
    obtain ⟨X', m1, m2⟩ := s_MteamAt (sc := sc) (d := 0) h1.2.1 hj hp ha ht2
    have r16 : X'.1 30 0 0 16 = 0 := (m2.at 30 (by decide) _ _ _).trans (th_16 _ _)
    have r2 : X'.2 = (nI (bs j + a)).toInt64 := m2.1
    have h3 := (h1.th 0).fr m2 (by decide)
    refine ⟨X', 0, vI 0, vI (nI (bs j + a)), ⟨c, bs, nn, lp, lt, h3⟩, by omega, fun o Z k2 hn => ?_⟩
    rw [Nat.zero_add]
    refine ev_seg rfl ?_
    simp only [TE, sxs, sx, ldI, ldA, stI, stA, inc, gtF, ptF, ldX, stX, ldR, ldL, stL, dp1, dp2, Tm, kS0, kS1, kS2, kS3, kS4, kS5, kS6, kS7, kS8, kS9, kS10, kS11, kS12, kS13, kS14, kS15, kS16, kS17, kS18, kS19, kS20, kS21, kS22, kS23, kS24, kS25, kS26, kS27, kS28, kS30, kS31, kS32, kS33, kS34, kS35, kS36, kS37, kS38, kS39, kS40, kS41, kS42, kS43, kS51, kS52, kS53, List.getElem?_cons_zero, List.getElem?_cons_succ, List.set_cons_zero, List.set_cons_succ, List.length_cons, List.length_nil, List.drop_succ_cons, List.drop_zero, List.cons_append, List.nil_append, Option.toList_some, Option.toList_none, cz, ci2, true_and, and_true, and_self, true_or, or_true, nI_1, Nat.reduceAdd, Nat.reduceLT, show roV sc 53 (i + 1).toNatClampNeg = nI j from e, show roV sc 53 (i + 2).toNatClampNeg = nI p from e2, roN]
    refine ⟨(by first | assumption | (and_intros <;> first | assumption | trivial | decide)), ?_⟩
    refine cv4 rfl rfl (by first | exact rfl | exact trivial) (Ev_d (d' := d + 39) (w_ok156 (d := 12) a1) (by omega)) ?_
    refine ev_seg rfl ?_
    simp only [TE, sxs, sx, ldI, ldA, stI, stA, inc, gtF, ptF, ldX, stX, ldR, ldL, stL, dp1, dp2, Tm, kS0, kS1, kS2, kS3, kS4, kS5, kS6, kS7, kS8, kS9, kS10, kS11, kS12, kS13, kS14, kS15, kS16, kS17, kS18, kS19, kS20, kS21, kS22, kS23, kS24, kS25, kS26, kS27, kS28, kS30, kS31, kS32, kS33, kS34, kS35, kS36, kS37, kS38, kS39, kS40, kS41, kS42, kS43, kS51, kS52, kS53, List.getElem?_cons_zero, List.getElem?_cons_succ, List.set_cons_zero, List.set_cons_succ, List.length_cons, List.length_nil, List.drop_succ_cons, List.drop_zero, List.cons_append, List.nil_append, Option.toList_some, Option.toList_none, cz, ci2, true_and, and_true, and_self, true_or, or_true, nI_1, Nat.reduceAdd, Nat.reduceLT, show roV sc 53 (i + 1).toNatClampNeg = nI j from e, show roV sc 53 (i + 2).toNatClampNeg = nI p from e2, roN]
    refine ⟨(by first | assumption | (and_intros <;> first | assumption | trivial | decide)), ?_⟩
    refine cv3 rfl rfl (by first | exact rfl | exact trivial) (Ev_d (d' := d + 39) m1 (by omega)) ?_
    exact ck124 r16 (fun _ => r2) hn
  · refine ⟨th Y 1, 1, vI 1, vI 0, ⟨c, bs, nn, lp, lt, h.th 1⟩, by omega, fun o Z k2 hn => ?_⟩
    refine ev_seg rfl ?_
    simp only [TE, sxs, sx, ldI, ldA, stI, stA, inc, gtF, ptF, ldX, stX, ldR, ldL, stL, dp1, dp2, Tm, kS0, kS1, kS2, kS3, kS4, kS5, kS6, kS7, kS8, kS9, kS10, kS11, kS12, kS13, kS14, kS15, kS16, kS17, kS18, kS19, kS20, kS21, kS22, kS23, kS24, kS25, kS26, kS27, kS28, kS30, kS31, kS32, kS33, kS34, kS35, kS36, kS37, kS38, kS39, kS40, kS41, kS42, kS43, kS51, kS52, kS53, List.getElem?_cons_zero, List.getElem?_cons_succ, List.set_cons_zero, List.set_cons_succ, List.length_cons, List.length_nil, List.drop_succ_cons, List.drop_zero, List.cons_append, List.nil_append, Option.toList_some, Option.toList_none, cz, ci2, true_and, and_true, and_self, true_or, or_true, nI_1, Nat.reduceAdd, Nat.reduceLT, roN]
    refine ⟨(by first | assumption | (and_intros <;> first | assumption | trivial | decide)), ?_⟩
    refine cl_retk rfl rfl rfl (by first | exact rfl | exact trivial) (Ev_d (d' := d + 39) (w_th156_0 (d := 12) (s_teamAtX (d := 0) h.1 ht)) (by omega)) ?_
    refine ev_seg rfl ?_
    simp only [TE, sxs, sx, ldI, ldA, stI, stA, inc, gtF, ptF, ldX, stX, ldR, ldL, stL, dp1, dp2, Tm, kS0, kS1, kS2, kS3, kS4, kS5, kS6, kS7, kS8, kS9, kS10, kS11, kS12, kS13, kS14, kS15, kS16, kS17, kS18, kS19, kS20, kS21, kS22, kS23, kS24, kS25, kS26, kS27, kS28, kS30, kS31, kS32, kS33, kS34, kS35, kS36, kS37, kS38, kS39, kS40, kS41, kS42, kS43, kS51, kS52, kS53, List.getElem?_cons_zero, List.getElem?_cons_succ, List.set_cons_zero, List.set_cons_succ, List.length_cons, List.length_nil, List.drop_succ_cons, List.drop_zero, List.cons_append, List.nil_append, Option.toList_some, Option.toList_none, cz, ci2, true_and, and_true, and_self, true_or, or_true, nI_1, Nat.reduceAdd, Nat.reduceLT, roN]
    refine ⟨(by first | assumption | (and_intros <;> first | assumption | trivial | decide)), ?_⟩
    refine cv3 rfl rfl (by first | exact rfl | exact trivial) (Ev_d (d' := d + 39) (s_MteamAtX (d := 0) h.2.1 ht) (by omega)) ?_
    exact ck124 (th_16 _ _) (fun w => absurd w (by decide)) hn
end Ca4
