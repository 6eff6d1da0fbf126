/-! the law: thirds -/
section Ca6
variable {sc : SC} {d : Nat} {Y : XT} {c lp lt : Nat} {bs nn : Nat → Nat}
theorem M5_fr {K : List Nat} {Z : XT} {t : Nat → Nat} (hf : Fr K Y Z) (h2 : 2 ∉ K) (h4 : 4 ∉ K) (h5 : 5 ∉ K) (h6 : 6 ∉ K) (h7 : 7 ∉ K) (j : Nat) : M5 Z c nn t j = M5 Y c nn t j := by
  unfold M5
  rw [T5_fr hf h2 h4 h5 h6 h7]
theorem cs151 (h : BI Y c bs nn lp lt) {i : Int32} (hv : vp_in (i + 1) sc.1) : CS sc d 151 Y i := by
  intro z5 z6
  by_cases ht : isG c (rd sc (i + 1))
  · obtain ⟨j, hj, e⟩ := ht
    obtain ⟨Z1, t, a1, f1, h3⟩ := s_thirdPoints (sc := sc) (d := 0) h.1 hj
    have h1 : BI ((Z1.1, (M5 Y c nn t j 0).toInt64) : XT) c bs nn lp lt := (h.fr f1 (by decide)).snd _
    obtain ⟨t1, t2⟩ := h3 j hj
    have htm : PTM ((Z1.1, (M5 Y c nn t j 0).toInt64) : XT) (bs j) (nn j) (t j) = 2 := (h1.2.2.1.pt h1.1 hj t1).trans ((congrFun (PTX_fr f1 (by decide) (by decide) (by decide) (by decide) (by decide)) (t j)).trans t2)
    obtain ⟨X', m1, m2⟩ := s_MthirdPoints (sc := sc) (d := 0) h1.2.1 hj t1 htm
    have he : TSM ((Z1.1, (M5 Y c nn t j 0).toInt64) : XT) c bs nn j (t j) 0 = M5 Y c nn t j 0 := (h1.2.2.1.m5 h1.1 hj (t := t) t1 (q := 0) (by decide)).trans (congrFun (M5_fr f1 (by decide) (by decide) (by decide) (by decide) (by decide) j) 0)
    rw [he] at m1
    have r16 : X'.1 30 0 0 16 = 0 := (m2.at 30 (by decide) _ _ _).trans (th_16 _ _)
    have r2 : X'.2 = (M5 Y c nn t j 0).toInt64 := m2.1
    have h4 := (h1.th 0).fr m2 (by decide)
    refine ⟨X', 0, vI 0, vI (M5 Y c nn t j 0), ⟨c, bs, nn, lp, lt, h4⟩, by omega, fun o Z k2 hn => ?_⟩
    rw [Nat.zero_add]
    refine ev_seg rfl ?_
    simp only [TE, sxs, sx, ldI, ldA, stI, stA, inc, gtF, ptF, ldX, stX, ldR, ldL, stL, dp1, dp2, Tm, kS0, kS1, kS2, kS3, kS4, kS5, kS6, kS7, kS8, kS9, kS10, kS11, kS12, kS13, kS14, kS15, kS16, kS17, kS18, kS19, kS20, kS21, kS22, kS23, kS24, kS25, kS26, kS27, kS28, kS30, kS31, kS32, kS33, kS34, kS35, kS36, kS37, kS38, kS39, kS40, kS41, kS42, kS43, kS51, kS52, kS53, List.getElem?_cons_zero, List.getElem?_cons_succ, List.set_cons_zero, List.set_cons_succ, List.length_cons, List.length_nil, List.drop_succ_cons, List.drop_zero, List.cons_append, List.nil_append, Option.toList_some, Option.toList_none, cz, ci2, true_and, and_true, and_self, true_or, or_true, nI_1, Nat.reduceAdd, Nat.reduceLT, show roV sc 53 (i + 1).toNatClampNeg = nI j from e, roN]
    refine ⟨⟨by decide, hv⟩, ?_⟩
    refine cv3 rfl rfl (by first | exact rfl | exact trivial) (Ev_d (d' := d + 39) (w_ok159 (d := 13) a1) (by omega)) ?_
    refine ev_seg rfl ?_
    simp only [TE, sxs, sx, ldI, ldA, stI, stA, inc, gtF, ptF, ldX, stX, ldR, ldL, stL, dp1, dp2, Tm, kS0, kS1, kS2, kS3, kS4, kS5, kS6, kS7, kS8, kS9, kS10, kS11, kS12, kS13, kS14, kS15, kS16, kS17, kS18, kS19, kS20, kS21, kS22, kS23, kS24, kS25, kS26, kS27, kS28, kS30, kS31, kS32, kS33, kS34, kS35, kS36, kS37, kS38, kS39, kS40, kS41, kS42, kS43, kS51, kS52, kS53, List.getElem?_cons_zero, List.getElem?_cons_succ, List.set_cons_zero, List.set_cons_succ, List.length_cons, List.length_nil, List.drop_succ_cons, List.drop_zero, List.cons_append, List.nil_append, Option.toList_some, Option.toList_none, cz, ci2, true_and, and_true, and_self, true_or, or_true, nI_1, Nat.reduceAdd, Nat.reduceLT, show roV sc 53 (i + 1).toNatClampNeg = nI j from e, roN]
    refine ⟨⟨by decide, hv⟩, ?_⟩
    refine cv2 rfl rfl (by first | exact rfl | exact trivial) (Ev_d (d' := d + 39) m1 (by omega)) ?_
    exact ck151 r16 (fun _ => r2) hn
  · refine ⟨th Y 1, 1, vI 1, vI 0, ⟨c, bs, nn, lp, lt, h.th 1⟩, by omega, fun o Z k2 hn => ?_⟩
    refine ev_seg rfl ?_
    simp only [TE, sxs, sx, ldI, ldA, stI, stA, inc, gtF, ptF, ldX, stX, ldR, ldL, stL, dp1, dp2, Tm, kS0, kS1, kS2, kS3, kS4, kS5, kS6, kS7, kS8, kS9, kS10, kS11, kS12, kS13, kS14, kS15, kS16, kS17, kS18, kS19, kS20, kS21, kS22, kS23, kS24, kS25, kS26, kS27, kS28, kS30, kS31, kS32, kS33, kS34, kS35, kS36, kS37, kS38, kS39, kS40, kS41, kS42, kS43, kS51, kS52, kS53, List.getElem?_cons_zero, List.getElem?_cons_succ, List.set_cons_zero, List.set_cons_succ, List.length_cons, List.length_nil, List.drop_succ_cons, List.drop_zero, List.cons_append, List.nil_append, Option.toList_some, Option.toList_none, cz, ci2, true_and, and_true, and_self, true_or, or_true, nI_1, Nat.reduceAdd, Nat.reduceLT, roN]
    refine ⟨⟨by decide, hv⟩, ?_⟩
    refine cl_retk rfl rfl rfl (by first | exact rfl | exact trivial) (Ev_d (d' := d + 39) (w_th159_0 (d := 3) (s_noGroup1 (d := 0) (y := 76) h.1 ht (by decide))) (by omega)) ?_
    refine ev_seg rfl ?_
    simp only [TE, sxs, sx, ldI, ldA, stI, stA, inc, gtF, ptF, ldX, stX, ldR, ldL, stL, dp1, dp2, Tm, kS0, kS1, kS2, kS3, kS4, kS5, kS6, kS7, kS8, kS9, kS10, kS11, kS12, kS13, kS14, kS15, kS16, kS17, kS18, kS19, kS20, kS21, kS22, kS23, kS24, kS25, kS26, kS27, kS28, kS30, kS31, kS32, kS33, kS34, kS35, kS36, kS37, kS38, kS39, kS40, kS41, kS42, kS43, kS51, kS52, kS53, List.getElem?_cons_zero, List.getElem?_cons_succ, List.set_cons_zero, List.set_cons_succ, List.length_cons, List.length_nil, List.drop_succ_cons, List.drop_zero, List.cons_append, List.nil_append, Option.toList_some, Option.toList_none, cz, ci2, true_and, and_true, and_self, true_or, or_true, nI_1, Nat.reduceAdd, Nat.reduceLT, roN]
    refine ⟨⟨by decide, hv⟩, ?_⟩
    refine cv2 rfl rfl (by first | exact rfl | exact trivial) (Ev_d (d' := d + 39) (s_MnoGroup (d := 0) (y := 131) h.2.1 ht (by decide)) (by omega)) ?_
    exact ck151 (th_16 _ _) (fun w => absurd w (by decide)) hn
theorem TRK_fr {K : List Nat} {Z : XT} {t : Nat → Nat} (hf : Fr K Y Z) (h2 : 2 ∉ K) (h4 : 4 ∉ K) (h5 : 5 ∉ K) (h6 : 6 ∉ K) (h7 : 7 ∉ K) (j : Nat) : TRK Z c nn t j = TRK Y c nn t j := by
  unfold TRK
  rw [show (fun z => betB (M5 Z c nn t z) (M5 Z c nn t j) 5) = (fun z => betB (M5 Y c nn t z) (M5 Y c nn t j) 5) from funext fun z => by rw [M5_fr hf h2 h4 h5 h6 h7, M5_fr hf h2 h4 h5 h6 h7]]
theorem cs160 (h : BI Y c bs nn lp lt) {i : Int32} (hv : vp_in (i + 1) sc.1) : CS sc d 160 Y i := by
  intro z5 z6
  by_cases ht : isG c (rd sc (i + 1))
  · obtain ⟨j, hj, e⟩ := ht
    obtain ⟨Z1, t, a1, f1, h3⟩ := s_thirdRank (sc := sc) (d := 0) h.1 hj
    have h1 : BI ((Z1.1, (nI (TRK Y c nn t j)).toInt64) : XT) c bs nn lp lt := (h.fr f1 (by decide)).snd _
    have htm : ∀ j', j' < c → t j' < nn j' ∧ PTM ((Z1.1, (nI (TRK Y c nn t j)).toInt64) : XT) (bs j') (nn j') (t j') = 2 := fun j' hj' => ⟨(h3 j' hj').1, (h1.2.2.1.pt h1.1 hj' (h3 j' hj').1).trans ((congrFun (PTX_fr f1 (by decide) (by decide) (by decide) (by decide) (by decide)) (t j')).trans (h3 j' hj').2)⟩
    obtain ⟨X', m1, m2⟩ := s_MthirdRank (sc := sc) (d := 0) h1.2.1 h.1.dj hj htm
    have he : TRM ((Z1.1, (nI (TRK Y c nn t j)).toInt64) : XT) c bs nn t j = TRK Y c nn t j := (h1.2.2.1.rk h1.1 hj (fun j' hj' => (h3 j' hj').1)).trans (TRK_fr f1 (by decide) (by decide) (by decide) (by decide) (by decide) j)
    rw [he] at m1
    have r16 : X'.1 30 0 0 16 = 0 := (m2.at 30 (by decide) _ _ _).trans (th_16 _ _)
    have r2 : X'.2 = (nI (TRK Y c nn t j)).toInt64 := m2.1
    have h4 := (h1.th 0).fr m2 (by decide)
    refine ⟨X', 0, vI 0, vI (nI (TRK Y c nn t j)), ⟨c, bs, nn, lp, lt, h4⟩, by omega, fun o Z k2 hn => ?_⟩
    rw [Nat.zero_add]
    refine ev_seg rfl ?_
    simp only [TE, sxs, sx, ldI, ldA, stI, stA, inc, gtF, ptF, ldX, stX, ldR, ldL, stL, dp1, dp2, Tm, kS0, kS1, kS2, kS3, kS4, kS5, kS6, kS7, kS8, kS9, kS10, kS11, kS12, kS13, kS14, kS15, kS16, kS17, kS18, kS19, kS20, kS21, kS22, kS23, kS24, kS25, kS26, kS27, kS28, kS30, kS31, kS32, kS33, kS34, kS35, kS36, kS37, kS38, kS39, kS40, kS41, kS42, kS43, kS51, kS52, kS53, List.getElem?_cons_zero, List.getElem?_cons_succ, List.set_cons_zero, List.set_cons_succ, List.length_cons, List.length_nil, List.drop_succ_cons, List.drop_zero, List.cons_append, List.nil_append, Option.toList_some, Option.toList_none, cz, ci2, true_and, and_true, and_self, true_or, or_true, nI_1, Nat.reduceAdd, Nat.reduceLT, show roV sc 53 (i + 1).toNatClampNeg = nI j from e, roN]
    refine ⟨⟨by decide, hv⟩, ?_⟩
    refine cv3 rfl rfl (by first | exact rfl | exact trivial) (Ev_d (d' := d + 39) (w_ok160 (d := 13) a1) (by omega)) ?_
    refine ev_seg rfl ?_
    simp only [TE, sxs, sx, ldI, ldA, stI, stA, inc, gtF, ptF, ldX, stX, ldR, ldL, stL, dp1, dp2, Tm, kS0, kS1, kS2, kS3, kS4, kS5, kS6, kS7, kS8, kS9, kS10, kS11, kS12, kS13, kS14, kS15, kS16, kS17, kS18, kS19, kS20, kS21, kS22, kS23, kS24, kS25, kS26, kS27, kS28, kS30, kS31, kS32, kS33, kS34, kS35, kS36, kS37, kS38, kS39, kS40, kS41, kS42, kS43, kS51, kS52, kS53, List.getElem?_cons_zero, List.getElem?_cons_succ, List.set_cons_zero, List.set_cons_succ, List.length_cons, List.length_nil, List.drop_succ_cons, List.drop_zero, List.cons_append, List.nil_append, Option.toList_some, Option.toList_none, cz, ci2, true_and, and_true, and_self, true_or, or_true, nI_1, Nat.reduceAdd, Nat.reduceLT, show roV sc 53 (i + 1).toNatClampNeg = nI j from e, roN]
    refine ⟨⟨by decide, hv⟩, ?_⟩
    refine cv2 rfl rfl (by first | exact rfl | exact trivial) (Ev_d (d' := d + 39) m1 (by omega)) ?_
    exact ck160 r16 (fun _ => r2) hn
  · refine ⟨th Y 1, 1, vI 1, vI 0, ⟨c, bs, nn, lp, lt, h.th 1⟩, by omega, fun o Z k2 hn => ?_⟩
    refine ev_seg rfl ?_
    simp only [TE, sxs, sx, ldI, ldA, stI, stA, inc, gtF, ptF, ldX, stX, ldR, ldL, stL, dp1, dp2, Tm, kS0, kS1, kS2, kS3, kS4, kS5, kS6, kS7, kS8, kS9, kS10, kS11, kS12, kS13, kS14, kS15, kS16, kS17, kS18, kS19, kS20, kS21, kS22, kS23, kS24, kS25, kS26, kS27, kS28, kS30, kS31, kS32, kS33, kS34, kS35, kS36, kS37, kS38, kS39, kS40, kS41, kS42, kS43, kS51, kS52, kS53, List.getElem?_cons_zero, List.getElem?_cons_succ, List.set_cons_zero, List.set_cons_succ, List.length_cons, List.length_nil, List.drop_succ_cons, List.drop_zero, List.cons_append, List.nil_append, Option.toList_some, Option.toList_none, cz, ci2, true_and, and_true, and_self, true_or, or_true, nI_1, Nat.reduceAdd, Nat.reduceLT, roN]
    refine ⟨⟨by decide, hv⟩, ?_⟩
    refine cl_retk rfl rfl rfl (by first | exact rfl | exact trivial) (Ev_d (d' := d + 39) (w_th160_0 (d := 3) (s_noGroup1 (d := 0) (y := 77) h.1 ht (by decide))) (by omega)) ?_
    refine ev_seg rfl ?_
    simp only [TE, sxs, sx, ldI, ldA, stI, stA, inc, gtF, ptF, ldX, stX, ldR, ldL, stL, dp1, dp2, Tm, kS0, kS1, kS2, kS3, kS4, kS5, kS6, kS7, kS8, kS9, kS10, kS11, kS12, kS13, kS14, kS15, kS16, kS17, kS18, kS19, kS20, kS21, kS22, kS23, kS24, kS25, kS26, kS27, kS28, kS30, kS31, kS32, kS33, kS34, kS35, kS36, kS37, kS38, kS39, kS40, kS41, kS42, kS43, kS51, kS52, kS53, List.getElem?_cons_zero, List.getElem?_cons_succ, List.set_cons_zero, List.set_cons_succ, List.length_cons, List.length_nil, List.drop_succ_cons, List.drop_zero, List.cons_append, List.nil_append, Option.toList_some, Option.toList_none, cz, ci2, true_and, and_true, and_self, true_or, or_true, nI_1, Nat.reduceAdd, Nat.reduceLT, roN]
    refine ⟨⟨by decide, hv⟩, ?_⟩
    refine cv2 rfl rfl (by first | exact rfl | exact trivial) (Ev_d (d' := d + 39) (s_MnoGroup (d := 0) (y := 132) h.2.1 ht (by decide)) (by omega)) ?_
    exact ck160 (th_16 _ _) (fun w => absurd w (by decide)) hn
theorem cs169 (h : BI Y c bs nn lp lt) {i : Int32} (hv : vp_in (i + 1) sc.1) : CS sc d 169 Y i := by
  intro z5 z6
  by_cases ht : isT bs c (rd sc (i + 1))
  · obtain ⟨j, a, hj, ha, e⟩ := h.1.team ht
    obtain ⟨Z1, t, a1, f1, h3⟩ := s_isThrough (sc := sc) (d := 0) h.1 hj ha
    have h1 : BI ((Z1.1, if PTX Y (nI j) (nn j) a < lp ∨ (PTX Y (nI j) (nn j) a = 2 ∧ TRK Y c nn t j < lt) then 1 else 0) : XT) c bs nn lp lt := (h.fr f1 (by decide)).snd _
    generalize hW : ((Z1.1, if PTX Y (nI j) (nn j) a < lp ∨ (PTX Y (nI j) (nn j) a = 2 ∧ TRK Y c nn t j < lt) then 1 else 0) : XT) = W at h1
    have hP : ∀ j', PTX W (nI j') (nn j') = PTX Y (nI j') (nn j') := fun j' => by
      have hq : PTX Z1 (nI j') (nn j') = PTX Y (nI j') (nn j') := PTX_fr f1 (by decide) (by decide) (by decide) (by decide) (by decide)
      rw [← hW]
      exact hq
    have htm : ∀ j', j' < c → t j' < nn j' ∧ PTM W (bs j') (nn j') (t j') = 2 := fun j' hj' => ⟨(h3 j' hj').1, (h1.2.2.1.pt h1.1 hj' (h3 j' hj').1).trans ((congrFun (hP j') (t j')).trans (h3 j' hj').2)⟩
    obtain ⟨X', m1, m2⟩ := s_MisThrough (sc := sc) (d := 0) h1.2.1 h.1.dj hj ha htm
    have e1 : PTM W (bs j) (nn j) a = PTX Y (nI j) (nn j) a := (h1.2.2.1.pt h1.1 hj ha).trans (congrFun (hP j) a)
    have e2 : TRM W c bs nn t j = TRK Y c nn t j := (h1.2.2.1.rk h1.1 hj (fun j' hj' => (h3 j' hj').1)).trans (by
      have hq : TRK Z1 c nn t j = TRK Y c nn t j := TRK_fr f1 (by decide) (by decide) (by decide) (by decide) (by decide) j
      rw [← hW]
      exact hq)
    rw [e1, e2] at m1
    have r16 : X'.1 30 0 0 16 = 0 := (m2.at 30 (by decide) _ _ _).trans (th_16 _ _)
    have r2 : X'.2 = if PTX Y (nI j) (nn j) a < lp ∨ (PTX Y (nI j) (nn j) a = 2 ∧ TRK Y c nn t j < lt) then 1 else 0 := m2.1.trans (by rw [← hW]; rfl)
    have h4 := (h1.th 0).fr m2 (by decide)
    refine ⟨X', 0, vI 0, vI (bI (PTX Y (nI j) (nn j) a < lp ∨ (PTX Y (nI j) (nn j) a = 2 ∧ TRK Y c nn t j < lt))), ⟨c, bs, nn, lp, lt, h4⟩, by omega, fun o Z k2 hn => ?_⟩
    rw [Nat.zero_add]
    refine ev_seg rfl ?_
    simp only [TE, sxs, sx, ldI, ldA, stI, stA, inc, gtF, ptF, ldX, stX, ldR, ldL, stL, dp1, dp2, Tm, kS0, kS1, kS2, kS3, kS4, kS5, kS6, kS7, kS8, kS9, kS10, kS11, kS12, kS13, kS14, kS15, kS16, kS17, kS18, kS19, kS20, kS21, kS22, kS23, kS24, kS25, kS26, kS27, kS28, kS30, kS31, kS32, kS33, kS34, kS35, kS36, kS37, kS38, kS39, kS40, kS41, kS42, kS43, kS51, kS52, kS53, List.getElem?_cons_zero, List.getElem?_cons_succ, List.set_cons_zero, List.set_cons_succ, List.length_cons, List.length_nil, List.drop_succ_cons, List.drop_zero, List.cons_append, List.nil_append, Option.toList_some, Option.toList_none, cz, ci2, true_and, and_true, and_self, true_or, or_true, nI_1, Nat.reduceAdd, Nat.reduceLT, show roV sc 53 (i + 1).toNatClampNeg = nI (bs j + a) from e, roN]
    refine ⟨⟨by decide, hv⟩, ?_⟩
    refine cv3 rfl rfl (by first | exact rfl | exact trivial) (Ev_d (d' := d + 39) (w_ok161 (d := 13) a1) (by omega)) ?_
    rw [hW]
    refine ev_seg rfl ?_
    simp only [TE, sxs, sx, ldI, ldA, stI, stA, inc, gtF, ptF, ldX, stX, ldR, ldL, stL, dp1, dp2, Tm, kS0, kS1, kS2, kS3, kS4, kS5, kS6, kS7, kS8, kS9, kS10, kS11, kS12, kS13, kS14, kS15, kS16, kS17, kS18, kS19, kS20, kS21, kS22, kS23, kS24, kS25, kS26, kS27, kS28, kS30, kS31, kS32, kS33, kS34, kS35, kS36, kS37, kS38, kS39, kS40, kS41, kS42, kS43, kS51, kS52, kS53, List.getElem?_cons_zero, List.getElem?_cons_succ, List.set_cons_zero, List.set_cons_succ, List.length_cons, List.length_nil, List.drop_succ_cons, List.drop_zero, List.cons_append, List.nil_append, Option.toList_some, Option.toList_none, cz, ci2, true_and, and_true, and_self, true_or, or_true, nI_1, Nat.reduceAdd, Nat.reduceLT, show roV sc 53 (i + 1).toNatClampNeg = nI (bs j + a) from e, roN]
    refine ⟨⟨by decide, hv⟩, ?_⟩
    refine cv2 rfl rfl (by first | exact rfl | exact trivial) (Ev_d (d' := d + 39) m1 (by omega)) ?_
    exact ck169 r16 (fun _ => r2) hn
  · refine ⟨th Y 1, 1, vI 1, vI 0, ⟨c, bs, nn, lp, lt, h.th 1⟩, by omega, fun o Z k2 hn => ?_⟩
    refine ev_seg rfl ?_
    simp only [TE, sxs, sx, ldI, ldA, stI, stA, inc, gtF, ptF, ldX, stX, ldR, ldL, stL, dp1, dp2, Tm, kS0, kS1, kS2, kS3, kS4, kS5, kS6, kS7, kS8, kS9, kS10, kS11, kS12, kS13, kS14, kS15, kS16, kS17, kS18, kS19, kS20, kS21, kS22, kS23, kS24, kS25, kS26, kS27, kS28, kS30, kS31, kS32, kS33, kS34, kS35, kS36, kS37, kS38, kS39, kS40, kS41, kS42, kS43, kS51, kS52, kS53, List.getElem?_cons_zero, List.getElem?_cons_succ, List.set_cons_zero, List.set_cons_succ, List.length_cons, List.length_nil, List.drop_succ_cons, List.drop_zero, List.cons_append, List.nil_append, Option.toList_some, Option.toList_none, cz, ci2, true_and, and_true, and_self, true_or, or_true, nI_1, Nat.reduceAdd, Nat.reduceLT, roN]
    refine ⟨⟨by decide, hv⟩, ?_⟩
    refine cl_retk rfl rfl rfl (by first | exact rfl | exact trivial) (Ev_d (d' := d + 39) (w_th161_0 (d := 2) (s_isThroughX (d := 0) h.1 ht)) (by omega)) ?_
    refine ev_seg rfl ?_
    simp only [TE, sxs, sx, ldI, ldA, stI, stA, inc, gtF, ptF, ldX, stX, ldR, ldL, stL, dp1, dp2, Tm, kS0, kS1, kS2, kS3, kS4, kS5, kS6, kS7, kS8, kS9, kS10, kS11, kS12, kS13, kS14, kS15, kS16, kS17, kS18, kS19, kS20, kS21, kS22, kS23, kS24, kS25, kS26, kS27, kS28, kS30, kS31, kS32, kS33, kS34, kS35, kS36, kS37, kS38, kS39, kS40, kS41, kS42, kS43, kS51, kS52, kS53, List.getElem?_cons_zero, List.getElem?_cons_succ, List.set_cons_zero, List.set_cons_succ, List.length_cons, List.length_nil, List.drop_succ_cons, List.drop_zero, List.cons_append, List.nil_append, Option.toList_some, Option.toList_none, cz, ci2, true_and, and_true, and_self, true_or, or_true, nI_1, Nat.reduceAdd, Nat.reduceLT, roN]
    refine ⟨⟨by decide, hv⟩, ?_⟩
    refine cv2 rfl rfl (by first | exact rfl | exact trivial) (Ev_d (d' := d + 39) (s_MnoTeam (d := 0) (y := 133) h.2.1 ht (by decide)) (by omega)) ?_
    have hb : (0 : Int32) = bI False := rfl
    exact ck169 (p := False) (th_16 _ _) (fun w => absurd w (by decide)) hn
end Ca6
