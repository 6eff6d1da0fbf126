/-! the law: results and groups -/
section Ca8
variable {sc : SC} {d : Nat} {Y : XT} {c lp lt : Nat} {bs nn : Nat → Nat}
/-- a result laid by both -/
theorem BI_lay (h : BI Y c bs nn lp lt) {j a b : Nat} (hj : j < c) (ha : a < nn j) (hb : b < nn j) (hab : a ≠ b) {v w : Int32} (hv : VW v w) (z : Int64) : BI (layX (th ((tellX Y (nI j) (nI a) (nI b) v w).1, z) 0) (bs j) a b v w) c bs nn lp lt ∧ MI ((tellX Y (nI j) (nI a) (nI b) v w).1, z) c bs nn lp lt ∧ lfA (scM (layX (th ((tellX Y (nI j) (nI a) (nI b) v w).1, z) 0) (bs j) a b v w) (bs j)) (nn j) = lfA (scC (tellX Y (nI j) (nI a) (nI b) v w) (nI j)) (nn j) ∧ (layX (th ((tellX Y (nI j) (nI a) (nI b) v w).1, z) 0) (bs j) a b v w).1 30 0 0 16 = 0 := by
  have hB := BI_put ((h.snd z).th 0) hj ha hb hab hv
  rw [← th_tell] at hB
  have fT : Fr [4] ((Y.1, z) : XT) (tellX (Y.1, z) (nI j) (nI a) (nI b) v w) := tell_fr4 _ _ _ _ _ _
  have fL := lay_fr (th ((tellX Y (nI j) (nI a) (nI b) v w).1, z) 0) (bs j) a b v w
  refine ⟨hB, (h.snd z).2.1.fr fT (by decide) (by decide) (by decide) (by decide) (by decide) (by decide) (by decide) (by decide), ?_, (fL.at 30 (by decide) _ _ _).trans (th_16 _ _)⟩
  rw [hB.2.2.1.lf hj, scC_fr fL (by decide), scC_fr (th_fr _ _) (by decide)]
  rfl
theorem cs11 (h : BI Y c bs nn lp lt) {i : Int32} (hv : vp_in (i + 1) sc.1) (hv2 : vp_in (i + 2) sc.1) (hv3 : vp_in (i + 3) sc.1) (hv4 : vp_in (i + 4) sc.1) : CS sc d 11 Y i := by
  intro z5 z6
  by_cases ht : isT bs c (rd sc (i + 1)) ∧ isT bs c (rd sc (i + 2))
  · obtain ⟨j, a, hj, ha, e⟩ := h.1.team ht.1
    obtain ⟨j', b, hj', hb, e2⟩ := h.1.team ht.2
    by_cases hp : bs j + a ≠ bs j' + b ∧ j = j'
    · obtain ⟨hne, rfl⟩ := hp
      have hab : a ≠ b := fun q => hne (by rw [q])
      by_cases hr : (0 ≤ rd sc (i + 3) ∧ rd sc (i + 3) ≤ 20) ∧ 0 ≤ rd sc (i + 4) ∧ rd sc (i + 4) ≤ 20
      · have a1 := s_setResult (sc := sc) (d := 0) h.1 hj ha hb hab hr.1 hr.2
        have hvw : VW (rd sc (i + 3)) (rd sc (i + 4)) := Or.inr ⟨rng (by decide) (by decide) hr.1, rng (by decide) (by decide) hr.2⟩
        obtain ⟨hB, hM, hl, r16⟩ := BI_lay h hj ha hb hab hvw (nI (lfA (scC (tellX Y (nI j) (nI a) (nI b) (rd sc (i + 3)) (rd sc (i + 4))) (nI j)) (nn j)).length).toInt64
        have m1 := s_MsetResult (sc := sc) (d := 0) hM hj ha hb hab hr.1 hr.2 (hB.2.1.1.2 j hj).2.1
        rw [hl] at m1
        refine ⟨_, 0, vI 0, vI (nI (lfA (scC (tellX Y (nI j) (nI a) (nI b) (rd sc (i + 3)) (rd sc (i + 4))) (nI j)) (nn j)).length), ⟨c, bs, nn, lp, lt, hB⟩, by omega, fun o Z k2 hn => ?_⟩
        rw [Nat.zero_add]
        refine ev_seg rfl ?_
        simp only [TE, sxs, sx, ldI, ldA, stI, stA, inc, gtF, ptF, ldX, stX, ldR, ldL, stL, dp1, dp2, Tm, kS0, kS1, kS2, kS3, kS4, kS5, kS6, kS7, kS8, kS9, kS10, kS11, kS12, kS13, kS14, kS15, kS16, kS17, kS18, kS19, kS20, kS21, kS22, kS23, kS24, kS25, kS26, kS27, kS28, kS30, kS31, kS32, kS33, kS34, kS35, kS36, kS37, kS38, kS39, kS40, kS41, kS42, kS43, kS51, kS52, kS53, List.getElem?_cons_zero, List.getElem?_cons_succ, List.set_cons_zero, List.set_cons_succ, List.length_cons, List.length_nil, List.drop_succ_cons, List.drop_zero, List.cons_append, List.nil_append, Option.toList_some, Option.toList_none, cz, ci2, true_and, and_true, and_self, true_or, or_true, nI_1, Nat.reduceAdd, Nat.reduceLT, show roV sc 53 (i + 1).toNatClampNeg = nI (bs j + a) from e, show roV sc 53 (i + 2).toNatClampNeg = nI (bs j + b) from e2, roN]
        refine ⟨(by first | assumption | (and_intros <;> first | assumption | trivial | decide)), ?_⟩
        refine cv6 rfl rfl (by first | exact rfl | exact trivial) (Ev_d (d' := d + 39) (w_ok144 (d := 3) a1) (by omega)) ?_
        refine ev_seg rfl ?_
        simp only [TE, sxs, sx, ldI, ldA, stI, stA, inc, gtF, ptF, ldX, stX, ldR, ldL, stL, dp1, dp2, Tm, kS0, kS1, kS2, kS3, kS4, kS5, kS6, kS7, kS8, kS9, kS10, kS11, kS12, kS13, kS14, kS15, kS16, kS17, kS18, kS19, kS20, kS21, kS22, kS23, kS24, kS25, kS26, kS27, kS28, kS30, kS31, kS32, kS33, kS34, kS35, kS36, kS37, kS38, kS39, kS40, kS41, kS42, kS43, kS51, kS52, kS53, List.getElem?_cons_zero, List.getElem?_cons_succ, List.set_cons_zero, List.set_cons_succ, List.length_cons, List.length_nil, List.drop_succ_cons, List.drop_zero, List.cons_append, List.nil_append, Option.toList_some, Option.toList_none, cz, ci2, true_and, and_true, and_self, true_or, or_true, nI_1, Nat.reduceAdd, Nat.reduceLT, show roV sc 53 (i + 1).toNatClampNeg = nI (bs j + a) from e, show roV sc 53 (i + 2).toNatClampNeg = nI (bs j + b) from e2, roN]
        refine ⟨(by first | assumption | (and_intros <;> first | assumption | trivial | decide)), ?_⟩
        refine cv5 rfl rfl (by first | exact rfl | exact trivial) (Ev_d (d' := d + 39) m1 (by omega)) ?_
        exact ck11 r16 (fun _ => rfl) hn
      · refine ⟨th Y 2, 1, vI 2, vI 0, ⟨c, bs, nn, lp, lt, h.th 2⟩, by omega, fun o Z k2 hn => ?_⟩
        refine ev_seg rfl ?_
        simp only [TE, sxs, sx, ldI, ldA, stI, stA, inc, gtF, ptF, ldX, stX, ldR, ldL, stL, dp1, dp2, Tm, kS0, kS1, kS2, kS3, kS4, kS5, kS6, kS7, kS8, kS9, kS10, kS11, kS12, kS13, kS14, kS15, kS16, kS17, kS18, kS19, kS20, kS21, kS22, kS23, kS24, kS25, kS26, kS27, kS28, kS30, kS31, kS32, kS33, kS34, kS35, kS36, kS37, kS38, kS39, kS40, kS41, kS42, kS43, kS51, kS52, kS53, List.getElem?_cons_zero, List.getElem?_cons_succ, List.set_cons_zero, List.set_cons_succ, List.length_cons, List.length_nil, List.drop_succ_cons, List.drop_zero, List.cons_append, List.nil_append, Option.toList_some, Option.toList_none, cz, ci2, true_and, and_true, and_self, true_or, or_true, nI_1, Nat.reduceAdd, Nat.reduceLT, show roV sc 53 (i + 1).toNatClampNeg = nI (bs j + a) from e, show roV sc 53 (i + 2).toNatClampNeg = nI (bs j + b) from e2, roN]
        refine ⟨(by first | assumption | (and_intros <;> first | assumption | trivial | decide)), ?_⟩
        refine cl_retk rfl rfl rfl (by first | exact rfl | exact trivial) (Ev_d (d' := d + 39) (w_th144_1 (d := 3) (s_setResultX (d := 0) h.1 hj ha hb hab hr)) (by omega)) ?_
        refine ev_seg rfl ?_
        simp only [TE, sxs, sx, ldI, ldA, stI, stA, inc, gtF, ptF, ldX, stX, ldR, ldL, stL, dp1, dp2, Tm, kS0, kS1, kS2, kS3, kS4, kS5, kS6, kS7, kS8, kS9, kS10, kS11, kS12, kS13, kS14, kS15, kS16, kS17, kS18, kS19, kS20, kS21, kS22, kS23, kS24, kS25, kS26, kS27, kS28, kS30, kS31, kS32, kS33, kS34, kS35, kS36, kS37, kS38, kS39, kS40, kS41, kS42, kS43, kS51, kS52, kS53, List.getElem?_cons_zero, List.getElem?_cons_succ, List.set_cons_zero, List.set_cons_succ, List.length_cons, List.length_nil, List.drop_succ_cons, List.drop_zero, List.cons_append, List.nil_append, Option.toList_some, Option.toList_none, cz, ci2, true_and, and_true, and_self, true_or, or_true, nI_1, Nat.reduceAdd, Nat.reduceLT, show roV sc 53 (i + 1).toNatClampNeg = nI (bs j + a) from e, show roV sc 53 (i + 2).toNatClampNeg = nI (bs j + b) from e2, roN]
        refine ⟨(by first | assumption | (and_intros <;> first | assumption | trivial | decide)), ?_⟩
        refine cv5 rfl rfl (by first | exact rfl | exact trivial) (Ev_d (d' := d + 39) (s_MsetResultX (d := 0) h.2.1 hj ha hj hb (fun q => hr q.2)) (by omega)) ?_
        exact ck11 (th_16 _ _) (fun w => absurd w (by decide)) hn
    · have hp3 : j ≠ j' ∨ a = b := by
        by_cases hjj : j = j'
        · subst hjj
          refine Or.inr (Classical.byContradiction fun q => hp ⟨by omega, rfl⟩)
        · exact Or.inl hjj
      refine ⟨th Y 2, 1, vI 2, vI 0, ⟨c, bs, nn, lp, lt, h.th 2⟩, by omega, fun o Z k2 hn => ?_⟩
      refine ev_seg rfl ?_
      simp only [TE, sxs, sx, ldI, ldA, stI, stA, inc, gtF, ptF, ldX, stX, ldR, ldL, stL, dp1, dp2, Tm, kS0, kS1, kS2, kS3, kS4, kS5, kS6, kS7, kS8, kS9, kS10, kS11, kS12, kS13, kS14, kS15, kS16, kS17, kS18, kS19, kS20, kS21, kS22, kS23, kS24, kS25, kS26, kS27, kS28, kS30, kS31, kS32, kS33, kS34, kS35, kS36, kS37, kS38, kS39, kS40, kS41, kS42, kS43, kS51, kS52, kS53, List.getElem?_cons_zero, List.getElem?_cons_succ, List.set_cons_zero, List.set_cons_succ, List.length_cons, List.length_nil, List.drop_succ_cons, List.drop_zero, List.cons_append, List.nil_append, Option.toList_some, Option.toList_none, cz, ci2, true_and, and_true, and_self, true_or, or_true, nI_1, Nat.reduceAdd, Nat.reduceLT, show roV sc 53 (i + 1).toNatClampNeg = nI (bs j + a) from e, show roV sc 53 (i + 2).toNatClampNeg = nI (bs j' + b) from e2, roN]
      refine ⟨(by first | assumption | (and_intros <;> first | assumption | trivial | decide)), ?_⟩
      refine cl_retk rfl rfl rfl (by first | exact rfl | exact trivial) (Ev_d (d' := d + 39) (w_th144_1 (d := 3) (s_setResultP (d := 0) (fun d => s_pairX3 h.1 hj ha hj' hb hp3))) (by omega)) ?_
      refine ev_seg rfl ?_
      simp only [TE, sxs, sx, ldI, ldA, stI, stA, inc, gtF, ptF, ldX, stX, ldR, ldL, stL, dp1, dp2, Tm, kS0, kS1, kS2, kS3, kS4, kS5, kS6, kS7, kS8, kS9, kS10, kS11, kS12, kS13, kS14, kS15, kS16, kS17, kS18, kS19, kS20, kS21, kS22, kS23, kS24, kS25, kS26, kS27, kS28, kS30, kS31, kS32, kS33, kS34, kS35, kS36, kS37, kS38, kS39, kS40, kS41, kS42, kS43, kS51, kS52, kS53, List.getElem?_cons_zero, List.getElem?_cons_succ, List.set_cons_zero, List.set_cons_succ, List.length_cons, List.length_nil, List.drop_succ_cons, List.drop_zero, List.cons_append, List.nil_append, Option.toList_some, Option.toList_none, cz, ci2, true_and, and_true, and_self, true_or, or_true, nI_1, Nat.reduceAdd, Nat.reduceLT, show roV sc 53 (i + 1).toNatClampNeg = nI (bs j + a) from e, show roV sc 53 (i + 2).toNatClampNeg = nI (bs j' + b) from e2, roN]
      refine ⟨(by first | assumption | (and_intros <;> first | assumption | trivial | decide)), ?_⟩
      refine cv5 rfl rfl (by first | exact rfl | exact trivial) (Ev_d (d' := d + 39) (s_MsetResultX (d := 0) h.2.1 hj ha hj' hb (fun q => hp q.1)) (by omega)) ?_
      exact ck11 (th_16 _ _) (fun w => absurd w (by decide)) hn
  · refine ⟨th Y 1, 1, vI 1, vI 0, ⟨c, bs, nn, lp, lt, h.th 1⟩, by omega, fun o Z k2 hn => ?_⟩
    refine ev_seg rfl ?_
    simp only [TE, sxs, sx, ldI, ldA, stI, stA, inc, gtF, ptF, ldX, stX, ldR, ldL, stL, dp1, dp2, Tm, kS0, kS1, kS2, kS3, kS4, kS5, kS6, kS7, kS8, kS9, kS10, kS11, kS12, kS13, kS14, kS15, kS16, kS17, kS18, kS19, kS20, kS21, kS22, kS23, kS24, kS25, kS26, kS27, kS28, kS30, kS31, kS32, kS33, kS34, kS35, kS36, kS37, kS38, kS39, kS40, kS41, kS42, kS43, kS51, kS52, kS53, List.getElem?_cons_zero, List.getElem?_cons_succ, List.set_cons_zero, List.set_cons_succ, List.length_cons, List.length_nil, List.drop_succ_cons, List.drop_zero, List.cons_append, List.nil_append, Option.toList_some, Option.toList_none, cz, ci2, true_and, and_true, and_self, true_or, or_true, nI_1, Nat.reduceAdd, Nat.reduceLT, roN]
    refine ⟨(by first | assumption | (and_intros <;> first | assumption | trivial | decide)), ?_⟩
    refine cl_retk rfl rfl rfl (by first | exact rfl | exact trivial) (Ev_d (d' := d + 39) (w_th144_0 (d := 3) (s_setResultP (d := 0) (no_pair h.1 ht))) (by omega)) ?_
    refine ev_seg rfl ?_
    simp only [TE, sxs, sx, ldI, ldA, stI, stA, inc, gtF, ptF, ldX, stX, ldR, ldL, stL, dp1, dp2, Tm, kS0, kS1, kS2, kS3, kS4, kS5, kS6, kS7, kS8, kS9, kS10, kS11, kS12, kS13, kS14, kS15, kS16, kS17, kS18, kS19, kS20, kS21, kS22, kS23, kS24, kS25, kS26, kS27, kS28, kS30, kS31, kS32, kS33, kS34, kS35, kS36, kS37, kS38, kS39, kS40, kS41, kS42, kS43, kS51, kS52, kS53, List.getElem?_cons_zero, List.getElem?_cons_succ, List.set_cons_zero, List.set_cons_succ, List.length_cons, List.length_nil, List.drop_succ_cons, List.drop_zero, List.cons_append, List.nil_append, Option.toList_some, Option.toList_none, cz, ci2, true_and, and_true, and_self, true_or, or_true, nI_1, Nat.reduceAdd, Nat.reduceLT, roN]
    refine ⟨(by first | assumption | (and_intros <;> first | assumption | trivial | decide)), ?_⟩
    refine cv5 rfl rfl (by first | exact rfl | exact trivial) (Ev_d (d' := d + 39) (s_MnoPair101 (d := 0) h.2.1 ht) (by omega)) ?_
    exact ck11 (th_16 _ _) (fun w => absurd w (by decide)) hn
theorem cs20 (h : BI Y c bs nn lp lt) {i : Int32} (hv : vp_in (i + 1) sc.1) (hv2 : vp_in (i + 2) sc.1) : CS sc d 20 Y i := by
  intro z5 z6
  by_cases ht : isT bs c (rd sc (i + 1)) ∧ isT bs c (rd sc (i + 2))
  · obtain ⟨j, a, hj, ha, e⟩ := h.1.team ht.1
    obtain ⟨j', b, hj', hb, e2⟩ := h.1.team ht.2
    by_cases hp : bs j + a ≠ bs j' + b ∧ j = j'
    · obtain ⟨hne, rfl⟩ := hp
      have hab : a ≠ b := fun q => hne (by rw [q])
      by_cases hr : scC Y (nI j) a b = -1
      · have hrM : scM Y (bs j) a b = -1 := ((h.2.2.1 j hj).1 a b ha hb).trans hr
        refine ⟨th Y 3, 1, vI 3, vI 0, ⟨c, bs, nn, lp, lt, h.th 3⟩, by omega, fun o Z k2 hn => ?_⟩
        refine ev_seg rfl ?_
        simp only [TE, sxs, sx, ldI, ldA, stI, stA, inc, gtF, ptF, ldX, stX, ldR, ldL, stL, dp1, dp2, Tm, kS0, kS1, kS2, kS3, kS4, kS5, kS6, kS7, kS8, kS9, kS10, kS11, kS12, kS13, kS14, kS15, kS16, kS17, kS18, kS19, kS20, kS21, kS22, kS23, kS24, kS25, kS26, kS27, kS28, kS30, kS31, kS32, kS33, kS34, kS35, kS36, kS37, kS38, kS39, kS40, kS41, kS42, kS43, kS51, kS52, kS53, List.getElem?_cons_zero, List.getElem?_cons_succ, List.set_cons_zero, List.set_cons_succ, List.length_cons, List.length_nil, List.drop_succ_cons, List.drop_zero, List.cons_append, List.nil_append, Option.toList_some, Option.toList_none, cz, ci2, true_and, and_true, and_self, true_or, or_true, nI_1, Nat.reduceAdd, Nat.reduceLT, show roV sc 53 (i + 1).toNatClampNeg = nI (bs j + a) from e, show roV sc 53 (i + 2).toNatClampNeg = nI (bs j + b) from e2, roN]
        refine ⟨(by first | assumption | (and_intros <;> first | assumption | trivial | decide)), ?_⟩
        refine cl_retk rfl rfl rfl (by first | exact rfl | exact trivial) (Ev_d (d' := d + 39) (w_th145_2 (d := 3) (s_strikeX (d := 0) h.1 hj ha hb hab hr)) (by omega)) ?_
        refine ev_seg rfl ?_
        simp only [TE, sxs, sx, ldI, ldA, stI, stA, inc, gtF, ptF, ldX, stX, ldR, ldL, stL, dp1, dp2, Tm, kS0, kS1, kS2, kS3, kS4, kS5, kS6, kS7, kS8, kS9, kS10, kS11, kS12, kS13, kS14, kS15, kS16, kS17, kS18, kS19, kS20, kS21, kS22, kS23, kS24, kS25, kS26, kS27, kS28, kS30, kS31, kS32, kS33, kS34, kS35, kS36, kS37, kS38, kS39, kS40, kS41, kS42, kS43, kS51, kS52, kS53, List.getElem?_cons_zero, List.getElem?_cons_succ, List.set_cons_zero, List.set_cons_succ, List.length_cons, List.length_nil, List.drop_succ_cons, List.drop_zero, List.cons_append, List.nil_append, Option.toList_some, Option.toList_none, cz, ci2, true_and, and_true, and_self, true_or, or_true, nI_1, Nat.reduceAdd, Nat.reduceLT, show roV sc 53 (i + 1).toNatClampNeg = nI (bs j + a) from e, show roV sc 53 (i + 2).toNatClampNeg = nI (bs j + b) from e2, roN]
        refine ⟨(by first | assumption | (and_intros <;> first | assumption | trivial | decide)), ?_⟩
        refine cv3 rfl rfl (by first | exact rfl | exact trivial) (Ev_d (d' := d + 39) (s_MstrikeX3 (d := 0) h.2.1 hj ha hb hab hrM) (by omega)) ?_
        exact ck20 (th_16 _ _) (fun w => absurd w (by decide)) hn
      · have a1 := s_strike (sc := sc) (d := 0) h.1 hj ha hb hab hr
        obtain ⟨hB, hM, hl, r16⟩ := BI_lay h hj ha hb hab (v := -1) (w := -1) (Or.inl ⟨rfl, rfl⟩) (nI (lfA (scC (tellX Y (nI j) (nI a) (nI b) (-1) (-1)) (nI j)) (nn j)).length).toInt64
        have fT : Fr [4] ((Y.1, (nI (lfA (scC (tellX Y (nI j) (nI a) (nI b) (-1) (-1)) (nI j)) (nn j)).length).toInt64) : XT) ((tellX Y (nI j) (nI a) (nI b) (-1) (-1)).1, (nI (lfA (scC (tellX Y (nI j) (nI a) (nI b) (-1) (-1)) (nI j)) (nn j)).length).toInt64) := tell_fr4 ((Y.1, (nI (lfA (scC (tellX Y (nI j) (nI a) (nI b) (-1) (-1)) (nI j)) (nn j)).length).toInt64) : XT) _ _ _ _ _
        have hrM : ¬ scM ((tellX Y (nI j) (nI a) (nI b) (-1) (-1)).1, (nI (lfA (scC (tellX Y (nI j) (nI a) (nI b) (-1) (-1)) (nI j)) (nn j)).length).toInt64) (bs j) a b = -1 := by
          rw [scM_fr fT (by decide)]
          exact fun q => hr (((h.2.2.1 j hj).1 a b ha hb).symm.trans q)
        have m1 := s_Mstrike (sc := sc) (d := 0) hM hj ha hb hab hrM (hB.2.1.1.2 j hj).2.1
        rw [hl] at m1
        refine ⟨_, 0, vI 0, vI (nI (lfA (scC (tellX Y (nI j) (nI a) (nI b) (-1) (-1)) (nI j)) (nn j)).length), ⟨c, bs, nn, lp, lt, hB⟩, by omega, fun o Z k2 hn => ?_⟩
        rw [Nat.zero_add]
        refine ev_seg rfl ?_
        simp only [TE, sxs, sx, ldI, ldA, stI, stA, inc, gtF, ptF, ldX, stX, ldR, ldL, stL, dp1, dp2, Tm, kS0, kS1, kS2, kS3, kS4, kS5, kS6, kS7, kS8, kS9, kS10, kS11, kS12, kS13, kS14, kS15, kS16, kS17, kS18, kS19, kS20, kS21, kS22, kS23, kS24, kS25, kS26, kS27, kS28, kS30, kS31, kS32, kS33, kS34, kS35, kS36, kS37, kS38, kS39, kS40, kS41, kS42, kS43, kS51, kS52, kS53, List.getElem?_cons_zero, List.getElem?_cons_succ, List.set_cons_zero, List.set_cons_succ, List.length_cons, List.length_nil, List.drop_succ_cons, List.drop_zero, List.cons_append, List.nil_append, Option.toList_some, Option.toList_none, cz, ci2, true_and, and_true, and_self, true_or, or_true, nI_1, Nat.reduceAdd, Nat.reduceLT, show roV sc 53 (i + 1).toNatClampNeg = nI (bs j + a) from e, show roV sc 53 (i + 2).toNatClampNeg = nI (bs j + b) from e2, roN]
        refine ⟨(by first | assumption | (and_intros <;> first | assumption | trivial | decide)), ?_⟩
        refine cv4 rfl rfl (by first | exact rfl | exact trivial) (Ev_d (d' := d + 39) (w_ok145 (d := 3) a1) (by omega)) ?_
        refine ev_seg rfl ?_
        simp only [TE, sxs, sx, ldI, ldA, stI, stA, inc, gtF, ptF, ldX, stX, ldR, ldL, stL, dp1, dp2, Tm, kS0, kS1, kS2, kS3, kS4, kS5, kS6, kS7, kS8, kS9, kS10, kS11, kS12, kS13, kS14, kS15, kS16, kS17, kS18, kS19, kS20, kS21, kS22, kS23, kS24, kS25, kS26, kS27, kS28, kS30, kS31, kS32, kS33, kS34, kS35, kS36, kS37, kS38, kS39, kS40, kS41, kS42, kS43, kS51, kS52, kS53, List.getElem?_cons_zero, List.getElem?_cons_succ, List.set_cons_zero, List.set_cons_succ, List.length_cons, List.length_nil, List.drop_succ_cons, List.drop_zero, List.cons_append, List.nil_append, Option.toList_some, Option.toList_none, cz, ci2, true_and, and_true, and_self, true_or, or_true, nI_1, Nat.reduceAdd, Nat.reduceLT, show roV sc 53 (i + 1).toNatClampNeg = nI (bs j + a) from e, show roV sc 53 (i + 2).toNatClampNeg = nI (bs j + b) from e2, roN]
        refine ⟨(by first | assumption | (and_intros <;> first | assumption | trivial | decide)), ?_⟩
        refine cv3 rfl rfl (by first | exact rfl | exact trivial) (Ev_d (d' := d + 39) m1 (by omega)) ?_
        exact ck20 r16 (fun _ => rfl) hn
    · have hp3 : j ≠ j' ∨ a = b := by
        by_cases hjj : j = j'
        · subst hjj
          refine Or.inr (Classical.byContradiction fun q => hp ⟨by omega, rfl⟩)
        · exact Or.inl hjj
      refine ⟨th Y 2, 1, vI 2, vI 0, ⟨c, bs, nn, lp, lt, h.th 2⟩, by omega, fun o Z k2 hn => ?_⟩
      refine ev_seg rfl ?_
      simp only [TE, sxs, sx, ldI, ldA, stI, stA, inc, gtF, ptF, ldX, stX, ldR, ldL, stL, dp1, dp2, Tm, kS0, kS1, kS2, kS3, kS4, kS5, kS6, kS7, kS8, kS9, kS10, kS11, kS12, kS13, kS14, kS15, kS16, kS17, kS18, kS19, kS20, kS21, kS22, kS23, kS24, kS25, kS26, kS27, kS28, kS30, kS31, kS32, kS33, kS34, kS35, kS36, kS37, kS38, kS39, kS40, kS41, kS42, kS43, kS51, kS52, kS53, List.getElem?_cons_zero, List.getElem?_cons_succ, List.set_cons_zero, List.set_cons_succ, List.length_cons, List.length_nil, List.drop_succ_cons, List.drop_zero, List.cons_append, List.nil_append, Option.toList_some, Option.toList_none, cz, ci2, true_and, and_true, and_self, true_or, or_true, nI_1, Nat.reduceAdd, Nat.reduceLT, show roV sc 53 (i + 1).toNatClampNeg = nI (bs j + a) from e, show roV sc 53 (i + 2).toNatClampNeg = nI (bs j' + b) from e2, roN]
      refine ⟨(by first | assumption | (and_intros <;> first | assumption | trivial | decide)), ?_⟩
      refine cl_retk rfl rfl rfl (by first | exact rfl | exact trivial) (Ev_d (d' := d + 39) (w_th145_1 (d := 3) (s_strikeP (d := 0) (fun d => s_pairX3 h.1 hj ha hj' hb hp3))) (by omega)) ?_
      refine ev_seg rfl ?_
      simp only [TE, sxs, sx, ldI, ldA, stI, stA, inc, gtF, ptF, ldX, stX, ldR, ldL, stL, dp1, dp2, Tm, kS0, kS1, kS2, kS3, kS4, kS5, kS6, kS7, kS8, kS9, kS10, kS11, kS12, kS13, kS14, kS15, kS16, kS17, kS18, kS19, kS20, kS21, kS22, kS23, kS24, kS25, kS26, kS27, kS28, kS30, kS31, kS32, kS33, kS34, kS35, kS36, kS37, kS38, kS39, kS40, kS41, kS42, kS43, kS51, kS52, kS53, List.getElem?_cons_zero, List.getElem?_cons_succ, List.set_cons_zero, List.set_cons_succ, List.length_cons, List.length_nil, List.drop_succ_cons, List.drop_zero, List.cons_append, List.nil_append, Option.toList_some, Option.toList_none, cz, ci2, true_and, and_true, and_self, true_or, or_true, nI_1, Nat.reduceAdd, Nat.reduceLT, show roV sc 53 (i + 1).toNatClampNeg = nI (bs j + a) from e, show roV sc 53 (i + 2).toNatClampNeg = nI (bs j' + b) from e2, roN]
      refine ⟨(by first | assumption | (and_intros <;> first | assumption | trivial | decide)), ?_⟩
      refine cv3 rfl rfl (by first | exact rfl | exact trivial) (Ev_d (d' := d + 39) (s_MstrikeX (d := 0) h.2.1 hj ha hj' hb hp) (by omega)) ?_
      exact ck20 (th_16 _ _) (fun w => absurd w (by decide)) hn
  · refine ⟨th Y 1, 1, vI 1, vI 0, ⟨c, bs, nn, lp, lt, h.th 1⟩, by omega, fun o Z k2 hn => ?_⟩
    refine ev_seg rfl ?_
    simp only [TE, sxs, sx, ldI, ldA, stI, stA, inc, gtF, ptF, ldX, stX, ldR, ldL, stL, dp1, dp2, Tm, kS0, kS1, kS2, kS3, kS4, kS5, kS6, kS7, kS8, kS9, kS10, kS11, kS12, kS13, kS14, kS15, kS16, kS17, kS18, kS19, kS20, kS21, kS22, kS23, kS24, kS25, kS26, kS27, kS28, kS30, kS31, kS32, kS33, kS34, kS35, kS36, kS37, kS38, kS39, kS40, kS41, kS42, kS43, kS51, kS52, kS53, List.getElem?_cons_zero, List.getElem?_cons_succ, List.set_cons_zero, List.set_cons_succ, List.length_cons, List.length_nil, List.drop_succ_cons, List.drop_zero, List.cons_append, List.nil_append, Option.toList_some, Option.toList_none, cz, ci2, true_and, and_true, and_self, true_or, or_true, nI_1, Nat.reduceAdd, Nat.reduceLT, roN]
    refine ⟨(by first | assumption | (and_intros <;> first | assumption | trivial | decide)), ?_⟩
    refine cl_retk rfl rfl rfl (by first | exact rfl | exact trivial) (Ev_d (d' := d + 39) (w_th145_0 (d := 3) (s_strikeP (d := 0) (no_pair h.1 ht))) (by omega)) ?_
    refine ev_seg rfl ?_
    simp only [TE, sxs, sx, ldI, ldA, stI, stA, inc, gtF, ptF, ldX, stX, ldR, ldL, stL, dp1, dp2, Tm, kS0, kS1, kS2, kS3, kS4, kS5, kS6, kS7, kS8, kS9, kS10, kS11, kS12, kS13, kS14, kS15, kS16, kS17, kS18, kS19, kS20, kS21, kS22, kS23, kS24, kS25, kS26, kS27, kS28, kS30, kS31, kS32, kS33, kS34, kS35, kS36, kS37, kS38, kS39, kS40, kS41, kS42, kS43, kS51, kS52, kS53, List.getElem?_cons_zero, List.getElem?_cons_succ, List.set_cons_zero, List.set_cons_succ, List.length_cons, List.length_nil, List.drop_succ_cons, List.drop_zero, List.cons_append, List.nil_append, Option.toList_some, Option.toList_none, cz, ci2, true_and, and_true, and_self, true_or, or_true, nI_1, Nat.reduceAdd, Nat.reduceLT, roN]
    refine ⟨(by first | assumption | (and_intros <;> first | assumption | trivial | decide)), ?_⟩
    refine cv3 rfl rfl (by first | exact rfl | exact trivial) (Ev_d (d' := d + 39) (s_MnoPair102 (d := 0) h.2.1 ht) (by omega)) ?_
    exact ck20 (th_16 _ _) (fun w => absurd w (by decide)) hn
/-- what addGroup writes, in both -/
theorem ag_k {X : XT} {c T m k : Nat} (h0 : k ≠ 0) (h2 : k ≠ 2) (h4 : k ≠ 4) (h7 : k ≠ 7) : (agX X c T m).1 k = X.1 k := by
  show xs (xs (opAll (xs (xs X.1 2 0 (nI c) 4 (nI T)) 2 0 (nI c) 5 (nI m)) (nI c) (nI T) m m) 0 0 0 5 (nI (c + 1))) 0 0 0 6 (nI (T + m)) k = _
  rw [xs_k _ _ _ _ _ h0, xs_k _ _ _ _ _ h0, opAll_k h4 h7, xs_k _ _ _ _ _ h2, xs_k _ _ _ _ _ h2]
theorem ag_4 {X : XT} {c T m k : Nat} (h0 : k ≠ 0) : (agX X c T m).1 k = opAll (xs (xs X.1 2 0 (nI c) 4 (nI T)) 2 0 (nI c) 5 (nI m)) (nI c) (nI T) m m k := by
  show xs (xs (opAll (xs (xs X.1 2 0 (nI c) 4 (nI T)) 2 0 (nI c) 5 (nI m)) (nI c) (nI T) m m) 0 0 0 5 (nI (c + 1))) 0 0 0 6 (nI (T + m)) k = _
  rw [xs_k _ _ _ _ _ h0, xs_k _ _ _ _ _ h0]
theorem am_k {W : XT} {c T m k : Nat} (h : k ≠ 30) (h1 : k ≠ 31) (h2 : k ≠ 32) (h3 : k ≠ 33) (h6 : k ≠ 36) : (addM W T c m).1 k = W.1 k := by
  show xs (agM (xs (xs (xs W.1 30 0 0 16 0) 31 0 0 (nI c) (nI T)) 32 0 0 (nI c) (nI m)) T c m) 30 0 0 0 (nI (c + 1)) k = _
  rw [xs_k _ _ _ _ _ h, agM_k h3 h6 h, xs_k _ _ _ _ _ h2, xs_k _ _ _ _ _ h1, xs_k _ _ _ _ _ h]
theorem xs_gne (F : XF) (k : Nat) (a j x : Int32) {g g' : Int32} (j' : Int32) (h : g' ≠ g) : xs F k a g j x k a g' j' = F k a g' j' := by
  unfold xs
  rw [if_neg (fun w => h w.2.2.1)]
theorem ADD_ok {c T m : Nat} (hc : c < 6) (hm : 3 ≤ m ∧ m ≤ 5) (hT : T ≤ 25) (z : Int64) (r1 : Y.1 30 0 0 1 = nI T) : ADD Y (addM ((agX Y c T m).1, z) T c m) c m T ∧ (addM ((agX Y c T m).1, z) T c m).1 30 0 0 16 = 0 := by
  have e : ∀ x y, x < 40 → y < 40 → (nI x = nI y ↔ x = y) := fun x y _ _ => ⟨fun w => nI_inj (by omega) (by omega) w, fun w => by rw [w]⟩
  have g0 : ∀ j, (addM ((agX Y c T m).1, z) T c m).1 0 0 0 j = (agX Y c T m).1 0 0 0 j := fun j => by rw [am_k (by decide) (by decide) (by decide) (by decide) (by decide)]
  have o0 : ∀ j, opAll (xs (xs Y.1 2 0 (nI c) 4 (nI T)) 2 0 (nI c) 5 (nI m)) (nI c) (nI T) m m 0 0 0 j = Y.1 0 0 0 j := fun j => by rw [opAll_k (by decide) (by decide), xs_k _ _ _ _ _ (by decide), xs_k _ _ _ _ _ (by decide)]
  have ag0 : ∀ j, (agX Y c T m).1 0 0 0 j = xs (xs (opAll (xs (xs Y.1 2 0 (nI c) 4 (nI T)) 2 0 (nI c) 5 (nI m)) (nI c) (nI T) m m) 0 0 0 5 (nI (c + 1))) 0 0 0 6 (nI (T + m)) 0 0 0 j := fun j => rfl
  have y30 : ∀ j, (agX Y c T m).1 30 0 0 j = Y.1 30 0 0 j := fun j => by rw [ag_k (by decide) (by decide) (by decide) (by decide)]
  have G30 : ∀ j, xs (xs (xs (agX Y c T m).1 30 0 0 16 0) 31 0 0 (nI c) (nI T)) 32 0 0 (nI c) (nI m) 30 0 0 j = xs (agX Y c T m).1 30 0 0 16 0 30 0 0 j := fun j => by rw [x32, x31]
  have F30 : ∀ j, (addM ((agX Y c T m).1, z) T c m).1 30 0 0 j = xs (agM (xs (xs (xs (agX Y c T m).1 30 0 0 16 0) 31 0 0 (nI c) (nI T)) 32 0 0 (nI c) (nI m)) T c m) 30 0 0 0 (nI (c + 1)) 30 0 0 j := fun j => rfl
  have F3 : ∀ k, k ≠ 30 → (addM ((agX Y c T m).1, z) T c m).1 k = agM (xs (xs (xs (agX Y c T m).1 30 0 0 16 0) 31 0 0 (nI c) (nI T)) 32 0 0 (nI c) (nI m)) T c m k := fun k hk => by
    show xs (agM (xs (xs (xs (agX Y c T m).1 30 0 0 16 0) 31 0 0 (nI c) (nI T)) 32 0 0 (nI c) (nI m)) T c m) 30 0 0 0 (nI (c + 1)) k = _
    rw [xs_k _ _ _ _ _ hk]
  have slot : ∀ j, j ≠ 0 → j ≠ 1 → j ≠ 16 → (addM ((agX Y c T m).1, z) T c m).1 30 0 0 j = Y.1 30 0 0 j := fun j h0 h1 h16 => by
    rw [F30, xs_nj _ _ _ _ _ h0, agM_0 h1, G30, xs_nj _ _ _ _ _ h16, y30]
  refine ⟨⟨⟨?_, ?_, ?_, ?_⟩, fun j hj => ⟨?_, ?_⟩, fun j hj hne a b ha hb => ?_, fun a b ha hb => ?_, fun j hj hne a ha => ?_, fun a ha => ?_, ⟨?_, ?_, slot 2 (by decide) (by decide) (by decide), slot 3 (by decide) (by decide) (by decide)⟩, fun j hj => ⟨?_, ?_⟩, fun t ht => ⟨?_, ?_⟩, fun a ha => ⟨?_, ?_⟩, ?_, ?_, ?_, ?_, ?_⟩, ?_⟩
  · rw [g0, ag0, xs_nj _ _ _ _ _ (by decide), xs_self]
  · rw [g0, ag0, xs_self]
  · rw [g0, ag0, xs_nj _ _ _ _ _ (by decide), xs_nj _ _ _ _ _ (by decide), o0]
  · rw [g0, ag0, xs_nj _ _ _ _ _ (by decide), xs_nj _ _ _ _ _ (by decide), o0]
  · rw [am_k (by decide) (by decide) (by decide) (by decide) (by decide)]
    show (agX Y c T m).1 2 0 (nI j) 4 = _
    rw [ag_4 (by decide), opAll_k (by decide) (by decide)]
    by_cases h : j = c
    · rw [if_pos h, h, xs_nj _ _ _ _ _ (by decide), xs_self]
    · rw [if_neg h, xs_gne _ _ _ _ _ _ (fun w => h ((e _ _ (by omega) (by omega)).mp w)), xs_gne _ _ _ _ _ _ (fun w => h ((e _ _ (by omega) (by omega)).mp w))]
  · rw [am_k (by decide) (by decide) (by decide) (by decide) (by decide)]
    show (agX Y c T m).1 2 0 (nI j) 5 = _
    rw [ag_4 (by decide), opAll_k (by decide) (by decide)]
    by_cases h : j = c
    · rw [if_pos h, h, xs_self]
    · rw [if_neg h, xs_gne _ _ _ _ _ _ (fun w => h ((e _ _ (by omega) (by omega)).mp w)), xs_gne _ _ _ _ _ _ (fun w => h ((e _ _ (by omega) (by omega)).mp w))]
  · rw [am_k (by decide) (by decide) (by decide) (by decide) (by decide)]
    show (agX Y c T m).1 4 (nI j) (nI a) (nI b) = _
    rw [ag_4 (by decide), opAll_g (fun w => hne ((e _ _ (by omega) (by omega)).mp w)), xs_k _ _ _ _ _ (by decide), xs_k _ _ _ _ _ (by decide)]
  · rw [am_k (by decide) (by decide) (by decide) (by decide) (by decide)]
    show (agX Y c T m).1 4 (nI c) (nI a) (nI b) = _
    rw [ag_4 (by decide)]
    exact opAll_m hm.2 hb m (Nat.le_refl _) ha
  · rw [am_k (by decide) (by decide) (by decide) (by decide) (by decide)]
    show (agX Y c T m).1 7 0 (nI j) (nI a) = _
    rw [ag_4 (by decide), opAll_7g (fun w => hne ((e _ _ (by omega) (by omega)).mp w)), xs_k _ _ _ _ _ (by decide), xs_k _ _ _ _ _ (by decide)]
  · rw [am_k (by decide) (by decide) (by decide) (by decide) (by decide)]
    show (agX Y c T m).1 7 0 (nI c) (nI a) = _
    rw [ag_4 (by decide), opAll_7m hm.2 m (Nat.le_refl _) ha, nI_ad]
  · rw [F30, xs_self]
  · rw [F30, xs_nj _ _ _ _ _ (by decide)]
    exact agM_1 (by rw [G30, xs_nj _ _ _ _ _ (by decide), y30]; exact r1) m
  · rw [F3 31 (by decide), agM_k (by decide) (by decide) (by decide), xs_k _ _ _ _ _ (by decide)]
    by_cases h : j = c
    · rw [if_pos h, h, xs_self]
    · rw [if_neg h, xs_nj _ _ _ _ _ (fun w => h ((e _ _ (by omega) (by omega)).mp w)), xs_k _ _ _ _ _ (by decide), ag_k (by decide) (by decide) (by decide) (by decide)]
  · rw [F3 32 (by decide), agM_k (by decide) (by decide) (by decide)]
    by_cases h : j = c
    · rw [if_pos h, h, xs_self]
    · rw [if_neg h, xs_nj _ _ _ _ _ (fun w => h ((e _ _ (by omega) (by omega)).mp w)), xs_k _ _ _ _ _ (by decide), xs_k _ _ _ _ _ (by decide), ag_k (by decide) (by decide) (by decide) (by decide)]
  · rw [F3 33 (by decide), (agM_33 hT (show t < 31 by omega) m hm.2).1, if_neg (by omega), xs_k _ _ _ _ _ (by decide), xs_k _ _ _ _ _ (by decide), xs_k _ _ _ _ _ (by decide), ag_k (by decide) (by decide) (by decide) (by decide)]
  · rw [F3 36 (by decide), (agM_33 hT (show t < 31 by omega) m hm.2).2, if_neg (by omega), xs_k _ _ _ _ _ (by decide), xs_k _ _ _ _ _ (by decide), xs_k _ _ _ _ _ (by decide), ag_k (by decide) (by decide) (by decide) (by decide)]
  · rw [F3 33 (by decide), (agM_33 hT (show T + a < 31 by omega) m hm.2).1, if_pos (by omega)]
  · rw [F3 36 (by decide), (agM_33 hT (show T + a < 31 by omega) m hm.2).2, if_pos (by omega)]
  · rw [am_k (by decide) (by decide) (by decide) (by decide) (by decide)]
    exact ag_k (k := 5) (by decide) (by decide) (by decide) (by decide)
  · rw [am_k (by decide) (by decide) (by decide) (by decide) (by decide)]
    exact ag_k (k := 6) (by decide) (by decide) (by decide) (by decide)
  · rw [am_k (by decide) (by decide) (by decide) (by decide) (by decide)]
    exact ag_k (k := 34) (by decide) (by decide) (by decide) (by decide)
  · rw [am_k (by decide) (by decide) (by decide) (by decide) (by decide)]
    exact ag_k (k := 35) (by decide) (by decide) (by decide) (by decide)
  · rw [am_k (by decide) (by decide) (by decide) (by decide) (by decide)]
    exact ag_k (k := 37) (by decide) (by decide) (by decide) (by decide)
  · rw [F30, xs_nj _ _ _ _ _ (by decide), agM_0 (by decide), G30, xs_self]
theorem cs2 (h : BI Y c bs nn lp lt) {i : Int32} (hv : vp_in (i + 1) sc.1) : CS sc d 2 Y i := by
  intro z5 z6
  have hc6 := h.1.hc
  by_cases hr : 3 ≤ rd sc (i + 1) ∧ rd sc (i + 1) ≤ 5
  · by_cases hc : c < 6
    · obtain ⟨m, hm5, e⟩ := rng (B := 5) (by decide) (by decide) ⟨Int32.le_trans (show (0 : Int32) ≤ 3 by decide) hr.1, hr.2⟩
      have hm3 : 3 ≤ m := Nat.le_of_not_lt fun w => by
        have := hr.1
        rw [e] at this
        exact nle (b := 3) w (by decide) this
      have b5 := h.1.b5 c (Nat.le_refl _)
      have hb25 : bs c ≤ 25 := by omega
      have a1 := s_addGroup (sc := sc) (d := 0) h.1 ⟨hm3, hm5⟩ hc
      obtain ⟨hA, r16⟩ := ADD_ok hc ⟨hm3, hm5⟩ hb25 (nI (bs c)).toInt64 h.2.1.2.1.1
      have hB := BI_add (B := fun j => if j = c + 1 then bs c + m else bs j) (N := fun j => if j = c then m else nn j) h hc ⟨hm3, hm5⟩ hA (fun j hj => if_neg (by omega)) (if_pos rfl) (fun j hj => if_neg (by omega)) (if_pos rfl)
      have fA : Fr [0, 2, 4, 7] ((Y.1, (nI (bs c)).toInt64) : XT) ((agX Y c (bs c) m).1, (nI (bs c)).toInt64) := ⟨rfl, fun k hk => by
        simp at hk
        exact ag_k hk.1 hk.2.1 hk.2.2.1 hk.2.2.2⟩
      have hM := (h.snd (nI (bs c)).toInt64).2.1.fr fA (by decide) (by decide) (by decide) (by decide) (by decide) (by decide) (by decide) (by decide)
      have m1 := s_MaddGroup (sc := sc) (d := 0) hM ⟨hm3, hm5⟩ hc hb25
      refine ⟨_, 0, vI 0, vI (nI (bs c)), ⟨_, _, _, lp, lt, hB⟩, by omega, fun o Z k2 hn => ?_⟩
      rw [Nat.zero_add]
      refine ev_seg rfl ?_
      simp only [TE, sxs, sx, ldI, ldA, stI, stA, inc, gtF, ptF, ldX, stX, ldR, ldL, stL, dp1, dp2, Tm, kS0, kS1, kS2, kS3, kS4, kS5, kS6, kS7, kS8, kS9, kS10, kS11, kS12, kS13, kS14, kS15, kS16, kS17, kS18, kS19, kS20, kS21, kS22, kS23, kS24, kS25, kS26, kS27, kS28, kS30, kS31, kS32, kS33, kS34, kS35, kS36, kS37, kS38, kS39, kS40, kS41, kS42, kS43, kS51, kS52, kS53, List.getElem?_cons_zero, List.getElem?_cons_succ, List.set_cons_zero, List.set_cons_succ, List.length_cons, List.length_nil, List.drop_succ_cons, List.drop_zero, List.cons_append, List.nil_append, Option.toList_some, Option.toList_none, cz, ci2, true_and, and_true, and_self, true_or, or_true, nI_1, Nat.reduceAdd, Nat.reduceLT, show roV sc 53 (i + 1).toNatClampNeg = nI m from e, roN]
      refine ⟨(by first | assumption | (and_intros <;> first | assumption | trivial | decide)), ?_⟩
      refine cv3 rfl rfl (by first | exact rfl | exact trivial) (Ev_d (d' := d + 39) (w_ok143 (d := 1) a1) (by omega)) ?_
      refine ev_seg rfl ?_
      simp only [TE, sxs, sx, ldI, ldA, stI, stA, inc, gtF, ptF, ldX, stX, ldR, ldL, stL, dp1, dp2, Tm, kS0, kS1, kS2, kS3, kS4, kS5, kS6, kS7, kS8, kS9, kS10, kS11, kS12, kS13, kS14, kS15, kS16, kS17, kS18, kS19, kS20, kS21, kS22, kS23, kS24, kS25, kS26, kS27, kS28, kS30, kS31, kS32, kS33, kS34, kS35, kS36, kS37, kS38, kS39, kS40, kS41, kS42, kS43, kS51, kS52, kS53, List.getElem?_cons_zero, List.getElem?_cons_succ, List.set_cons_zero, List.set_cons_succ, List.length_cons, List.length_nil, List.drop_succ_cons, List.drop_zero, List.cons_append, List.nil_append, Option.toList_some, Option.toList_none, cz, ci2, true_and, and_true, and_self, true_or, or_true, nI_1, Nat.reduceAdd, Nat.reduceLT, show roV sc 53 (i + 1).toNatClampNeg = nI m from e, roN]
      refine ⟨(by first | assumption | (and_intros <;> first | assumption | trivial | decide)), ?_⟩
      refine cv2 rfl rfl (by first | exact rfl | exact trivial) (Ev_d (d' := d + 39) m1 (by omega)) ?_
      exact ck2 r16 (fun _ => rfl) hn
    · refine ⟨th Y 2, 1, vI 2, vI 0, ⟨c, bs, nn, lp, lt, h.th 2⟩, by omega, fun o Z k2 hn => ?_⟩
      refine ev_seg rfl ?_
      simp only [TE, sxs, sx, ldI, ldA, stI, stA, inc, gtF, ptF, ldX, stX, ldR, ldL, stL, dp1, dp2, Tm, kS0, kS1, kS2, kS3, kS4, kS5, kS6, kS7, kS8, kS9, kS10, kS11, kS12, kS13, kS14, kS15, kS16, kS17, kS18, kS19, kS20, kS21, kS22, kS23, kS24, kS25, kS26, kS27, kS28, kS30, kS31, kS32, kS33, kS34, kS35, kS36, kS37, kS38, kS39, kS40, kS41, kS42, kS43, kS51, kS52, kS53, List.getElem?_cons_zero, List.getElem?_cons_succ, List.set_cons_zero, List.set_cons_succ, List.length_cons, List.length_nil, List.drop_succ_cons, List.drop_zero, List.cons_append, List.nil_append, Option.toList_some, Option.toList_none, cz, ci2, true_and, and_true, and_self, true_or, or_true, nI_1, Nat.reduceAdd, Nat.reduceLT, roN]
      refine ⟨(by first | assumption | (and_intros <;> first | assumption | trivial | decide)), ?_⟩
      refine cl_retk rfl rfl rfl (by first | exact rfl | exact trivial) (Ev_d (d' := d + 39) (w_th143_2 (d := 1) ((s_addGroupX (d := 0) h.1).2 hr hc)) (by omega)) ?_
      refine ev_seg rfl ?_
      simp only [TE, sxs, sx, ldI, ldA, stI, stA, inc, gtF, ptF, ldX, stX, ldR, ldL, stL, dp1, dp2, Tm, kS0, kS1, kS2, kS3, kS4, kS5, kS6, kS7, kS8, kS9, kS10, kS11, kS12, kS13, kS14, kS15, kS16, kS17, kS18, kS19, kS20, kS21, kS22, kS23, kS24, kS25, kS26, kS27, kS28, kS30, kS31, kS32, kS33, kS34, kS35, kS36, kS37, kS38, kS39, kS40, kS41, kS42, kS43, kS51, kS52, kS53, List.getElem?_cons_zero, List.getElem?_cons_succ, List.set_cons_zero, List.set_cons_succ, List.length_cons, List.length_nil, List.drop_succ_cons, List.drop_zero, List.cons_append, List.nil_append, Option.toList_some, Option.toList_none, cz, ci2, true_and, and_true, and_self, true_or, or_true, nI_1, Nat.reduceAdd, Nat.reduceLT, roN]
      refine ⟨(by first | assumption | (and_intros <;> first | assumption | trivial | decide)), ?_⟩
      refine cv2 rfl rfl (by first | exact rfl | exact trivial) (Ev_d (d' := d + 39) ((s_MaddGroupX (d := 0) h.2.1).2 hr hc) (by omega)) ?_
      exact ck2 (th_16 _ _) (fun w => absurd w (by decide)) hn
  · refine ⟨th Y 1, 1, vI 1, vI 0, ⟨c, bs, nn, lp, lt, h.th 1⟩, by omega, fun o Z k2 hn => ?_⟩
    refine ev_seg rfl ?_
    simp only [TE, sxs, sx, ldI, ldA, stI, stA, inc, gtF, ptF, ldX, stX, ldR, ldL, stL, dp1, dp2, Tm, kS0, kS1, kS2, kS3, kS4, kS5, kS6, kS7, kS8, kS9, kS10, kS11, kS12, kS13, kS14, kS15, kS16, kS17, kS18, kS19, kS20, kS21, kS22, kS23, kS24, kS25, kS26, kS27, kS28, kS30, kS31, kS32, kS33, kS34, kS35, kS36, kS37, kS38, kS39, kS40, kS41, kS42, kS43, kS51, kS52, kS53, List.getElem?_cons_zero, List.getElem?_cons_succ, List.set_cons_zero, List.set_cons_succ, List.length_cons, List.length_nil, List.drop_succ_cons, List.drop_zero, List.cons_append, List.nil_append, Option.toList_some, Option.toList_none, cz, ci2, true_and, and_true, and_self, true_or, or_true, nI_1, Nat.reduceAdd, Nat.reduceLT, roN]
    refine ⟨(by first | assumption | (and_intros <;> first | assumption | trivial | decide)), ?_⟩
    refine cl_retk rfl rfl rfl (by first | exact rfl | exact trivial) (Ev_d (d' := d + 39) (w_th143_1 (d := 1) ((s_addGroupX (d := 0) h.1).1 hr)) (by omega)) ?_
    refine ev_seg rfl ?_
    simp only [TE, sxs, sx, ldI, ldA, stI, stA, inc, gtF, ptF, ldX, stX, ldR, ldL, stL, dp1, dp2, Tm, kS0, kS1, kS2, kS3, kS4, kS5, kS6, kS7, kS8, kS9, kS10, kS11, kS12, kS13, kS14, kS15, kS16, kS17, kS18, kS19, kS20, kS21, kS22, kS23, kS24, kS25, kS26, kS27, kS28, kS30, kS31, kS32, kS33, kS34, kS35, kS36, kS37, kS38, kS39, kS40, kS41, kS42, kS43, kS51, kS52, kS53, List.getElem?_cons_zero, List.getElem?_cons_succ, List.set_cons_zero, List.set_cons_succ, List.length_cons, List.length_nil, List.drop_succ_cons, List.drop_zero, List.cons_append, List.nil_append, Option.toList_some, Option.toList_none, cz, ci2, true_and, and_true, and_self, true_or, or_true, nI_1, Nat.reduceAdd, Nat.reduceLT, roN]
    refine ⟨(by first | assumption | (and_intros <;> first | assumption | trivial | decide)), ?_⟩
    refine cv2 rfl rfl (by first | exact rfl | exact trivial) (Ev_d (d' := d + 39) ((s_MaddGroupX (d := 0) h.2.1).1 hr) (by omega)) ?_
    exact ck2 (th_16 _ _) (fun w => absurd w (by decide)) hn
end Ca8
