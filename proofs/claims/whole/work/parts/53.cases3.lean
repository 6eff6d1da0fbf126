/-! the law: cases that use the tables and the outlook -/
section Ca3
variable {sc : SC} {d : Nat} {Y : XT} {c lp lt : Nat} {bs nn : Nat → Nat}
theorem cs115 (h : BI Y c bs nn lp lt) {i : Int32} (hv : vp_in (i + 1) sc.1) : CS sc d 115 Y i := by
  intro z5 z6
  by_cases ht : isT bs c (rd sc (i + 1))
  · obtain ⟨j, a, hj, ha, e⟩ := h.1.team ht
    obtain ⟨Z1, a1, f1, -⟩ := s_place (sc := sc) (d := 0) h.1 hj ha
    have h1 : BI ((Z1.1, (nI (PTX Y (nI j) (nn j) a)).toInt64) : XT) c bs nn lp lt := (h.fr f1 (by decide)).snd _
    obtain ⟨X', m1, m2⟩ := s_Mplace (sc := sc) (d := 0) h1.2.1 hj ha
    have r16 : X'.1 30 0 0 16 = 0 := (m2.at 30 (by decide) _ _ _).trans (th_16 _ _)
    have r2 : X'.2 = (nI (PTX Y (nI j) (nn j) a)).toInt64 := m2.1
    have h3 := (h1.th 0).fr m2 (by decide)
    have he : PTM ((Z1.1, (nI (PTX Y (nI j) (nn j) a)).toInt64) : XT) (bs j) (nn j) a = PTX Y (nI j) (nn j) a := (h1.2.2.1.pt h1.1 hj ha).trans (congrFun (PTX_fr f1 (by decide) (by decide) (by decide) (by decide) (by decide)) a)
    rw [he] at m1
    refine ⟨X', 0, vI 0, vI (nI (PTX Y (nI j) (nn j) a)), ⟨c, bs, nn, lp, lt, h3⟩, by omega, fun o Z k2 hn => ?_⟩
    rw [Nat.zero_add]
    refine ev_seg rfl ?_
    simp only [TE, sxs, sx, ldI, ldA, stI, stA, inc, gtF, ptF, ldX, stX, ldR, ldL, stL, dp1, dp2, Tm, kS0, kS1, kS2, kS3, kS4, kS5, kS6, kS7, kS8, kS9, kS10, kS11, kS12, kS13, kS14, kS15, kS16, kS17, kS18, kS19, kS20, kS21, kS22, kS23, kS24, kS25, kS26, kS27, kS28, kS30, kS31, kS32, kS33, kS34, kS35, kS36, kS37, kS38, kS39, kS40, kS41, kS42, kS43, kS51, kS52, kS53, List.getElem?_cons_zero, List.getElem?_cons_succ, List.set_cons_zero, List.set_cons_succ, List.length_cons, List.length_nil, List.drop_succ_cons, List.drop_zero, List.cons_append, List.nil_append, Option.toList_some, Option.toList_none, cz, ci2, true_and, and_true, and_self, true_or, or_true, nI_1, Nat.reduceAdd, Nat.reduceLT, show roV sc 53 (i + 1).toNatClampNeg = nI (bs j + a) from e, roN]
    refine ⟨⟨by decide, hv⟩, ?_⟩
    refine cv3 rfl rfl (by first | exact rfl | exact trivial) (Ev_d (d' := d + 39) (w_ok155 (d := 12) a1) (by omega)) ?_
    refine ev_seg rfl ?_
    simp only [TE, sxs, sx, ldI, ldA, stI, stA, inc, gtF, ptF, ldX, stX, ldR, ldL, stL, dp1, dp2, Tm, kS0, kS1, kS2, kS3, kS4, kS5, kS6, kS7, kS8, kS9, kS10, kS11, kS12, kS13, kS14, kS15, kS16, kS17, kS18, kS19, kS20, kS21, kS22, kS23, kS24, kS25, kS26, kS27, kS28, kS30, kS31, kS32, kS33, kS34, kS35, kS36, kS37, kS38, kS39, kS40, kS41, kS42, kS43, kS51, kS52, kS53, List.getElem?_cons_zero, List.getElem?_cons_succ, List.set_cons_zero, List.set_cons_succ, List.length_cons, List.length_nil, List.drop_succ_cons, List.drop_zero, List.cons_append, List.nil_append, Option.toList_some, Option.toList_none, cz, ci2, true_and, and_true, and_self, true_or, or_true, nI_1, Nat.reduceAdd, Nat.reduceLT, show roV sc 53 (i + 1).toNatClampNeg = nI (bs j + a) from e, roN]
    refine ⟨⟨by decide, hv⟩, ?_⟩
    refine cv2 rfl rfl (by first | exact rfl | exact trivial) (Ev_d (d' := d + 39) m1 (by omega)) ?_
    exact ck115 r16 (fun _ => r2) hn
  · refine ⟨th Y 1, 1, vI 1, vI 0, ⟨c, bs, nn, lp, lt, h.th 1⟩, by omega, fun o Z k2 hn => ?_⟩
    refine ev_seg rfl ?_
    simp only [TE, sxs, sx, ldI, ldA, stI, stA, inc, gtF, ptF, ldX, stX, ldR, ldL, stL, dp1, dp2, Tm, kS0, kS1, kS2, kS3, kS4, kS5, kS6, kS7, kS8, kS9, kS10, kS11, kS12, kS13, kS14, kS15, kS16, kS17, kS18, kS19, kS20, kS21, kS22, kS23, kS24, kS25, kS26, kS27, kS28, kS30, kS31, kS32, kS33, kS34, kS35, kS36, kS37, kS38, kS39, kS40, kS41, kS42, kS43, kS51, kS52, kS53, List.getElem?_cons_zero, List.getElem?_cons_succ, List.set_cons_zero, List.set_cons_succ, List.length_cons, List.length_nil, List.drop_succ_cons, List.drop_zero, List.cons_append, List.nil_append, Option.toList_some, Option.toList_none, cz, ci2, true_and, and_true, and_self, true_or, or_true, nI_1, Nat.reduceAdd, Nat.reduceLT, roN]
    refine ⟨⟨by decide, hv⟩, ?_⟩
    refine cl_retk rfl rfl rfl (by first | exact rfl | exact trivial) (Ev_d (d' := d + 39) (w_th155_0 (d := 3) (s_noTeam1 (d := 0) (y := 72) h.1 ht (by decide))) (by omega)) ?_
    refine ev_seg rfl ?_
    simp only [TE, sxs, sx, ldI, ldA, stI, stA, inc, gtF, ptF, ldX, stX, ldR, ldL, stL, dp1, dp2, Tm, kS0, kS1, kS2, kS3, kS4, kS5, kS6, kS7, kS8, kS9, kS10, kS11, kS12, kS13, kS14, kS15, kS16, kS17, kS18, kS19, kS20, kS21, kS22, kS23, kS24, kS25, kS26, kS27, kS28, kS30, kS31, kS32, kS33, kS34, kS35, kS36, kS37, kS38, kS39, kS40, kS41, kS42, kS43, kS51, kS52, kS53, List.getElem?_cons_zero, List.getElem?_cons_succ, List.set_cons_zero, List.set_cons_succ, List.length_cons, List.length_nil, List.drop_succ_cons, List.drop_zero, List.cons_append, List.nil_append, Option.toList_some, Option.toList_none, cz, ci2, true_and, and_true, and_self, true_or, or_true, nI_1, Nat.reduceAdd, Nat.reduceLT, roN]
    refine ⟨⟨by decide, hv⟩, ?_⟩
    refine cv2 rfl rfl (by first | exact rfl | exact trivial) (Ev_d (d' := d + 39) (s_MnoTeam (d := 0) (y := 123) h.2.1 ht (by decide)) (by omega)) ?_
    exact ck115 (th_16 _ _) (fun w => absurd w (by decide)) hn
theorem cs199 (h : BI Y c bs nn lp lt) {i : Int32} (hv : vp_in (i + 1) sc.1) : CS sc d 199 Y i := by
  intro z5 z6
  by_cases ht : isT bs c (rd sc (i + 1))
  · obtain ⟨j, a, hj, ha, e⟩ := h.1.team ht
    obtain ⟨Z1, a1, f1⟩ := s_waysLost (sc := sc) (d := 0) h.1 hj ha
    have h1 : BI ((Z1.1, (nI (CW Y nn lp j a 1)).toInt64) : XT) c bs nn lp lt := (h.fr f1 (by decide)).snd _
    obtain ⟨X', m1, m2⟩ := s_MwaysLost (sc := sc) (d := 0) h1.2.1 hj ha
    have r16 : X'.1 30 0 0 16 = 0 := (m2.at 30 (by decide) _ _ _).trans (th_16 _ _)
    have r2 : X'.2 = (nI (CW Y nn lp j a 1)).toInt64 := m2.1
    have h3 := (h1.th 0).fr m2 (by decide)
    have hS0 : scC Z1 (nI j) = scC Y (nI j) := scC_fr f1 (by decide)
    have hS : scC ((Z1.1, (nI (CW Y nn lp j a 1)).toInt64) : XT) (nI j) = scC Y (nI j) := hS0
    have hZ0 : PZ Z1 (nI j) (nn j) = PZ Y (nI j) (nn j) := by
      funext s
      exact congrArg Int32.toInt (congrFun (PX_fr f1 (by decide) (by decide)) s)
    have hZ : PZ ((Z1.1, (nI (CW Y nn lp j a 1)).toInt64) : XT) (nI j) (nn j) = PZ Y (nI j) (nn j) := hZ0
    have he0 : CW Z1 nn lp j a 1 = CW Y nn lp j a 1 := by unfold CW; rw [hS0, hZ0]
    have he : CWM ((Z1.1, (nI (CW Y nn lp j a 1)).toInt64) : XT) bs nn lp j a 1 = CW Y nn lp j a 1 := (h1.2.2.1.cw hj ha).trans he0
    rw [he] at m1
    refine ⟨X', 0, vI 0, vI (nI (CW Y nn lp j a 1)), ⟨c, bs, nn, lp, lt, h3⟩, by omega, fun o Z k2 hn => ?_⟩
    rw [Nat.zero_add]
    refine ev_seg rfl ?_
    simp only [TE, sxs, sx, ldI, ldA, stI, stA, inc, gtF, ptF, ldX, stX, ldR, ldL, stL, dp1, dp2, Tm, kS0, kS1, kS2, kS3, kS4, kS5, kS6, kS7, kS8, kS9, kS10, kS11, kS12, kS13, kS14, kS15, kS16, kS17, kS18, kS19, kS20, kS21, kS22, kS23, kS24, kS25, kS26, kS27, kS28, kS30, kS31, kS32, kS33, kS34, kS35, kS36, kS37, kS38, kS39, kS40, kS41, kS42, kS43, kS51, kS52, kS53, List.getElem?_cons_zero, List.getElem?_cons_succ, List.set_cons_zero, List.set_cons_succ, List.length_cons, List.length_nil, List.drop_succ_cons, List.drop_zero, List.cons_append, List.nil_append, Option.toList_some, Option.toList_none, cz, ci2, true_and, and_true, and_self, true_or, or_true, nI_1, Nat.reduceAdd, Nat.reduceLT, show roV sc 53 (i + 1).toNatClampNeg = nI (bs j + a) from e, roN]
    refine ⟨⟨by decide, hv⟩, ?_⟩
    refine cv3 rfl rfl (by first | exact rfl | exact trivial) (Ev_d (d' := d + 39) (w_ok164 (d := 14) a1) (by omega)) ?_
    refine ev_seg rfl ?_
    simp only [TE, sxs, sx, ldI, ldA, stI, stA, inc, gtF, ptF, ldX, stX, ldR, ldL, stL, dp1, dp2, Tm, kS0, kS1, kS2, kS3, kS4, kS5, kS6, kS7, kS8, kS9, kS10, kS11, kS12, kS13, kS14, kS15, kS16, kS17, kS18, kS19, kS20, kS21, kS22, kS23, kS24, kS25, kS26, kS27, kS28, kS30, kS31, kS32, kS33, kS34, kS35, kS36, kS37, kS38, kS39, kS40, kS41, kS42, kS43, kS51, kS52, kS53, List.getElem?_cons_zero, List.getElem?_cons_succ, List.set_cons_zero, List.set_cons_succ, List.length_cons, List.length_nil, List.drop_succ_cons, List.drop_zero, List.cons_append, List.nil_append, Option.toList_some, Option.toList_none, cz, ci2, true_and, and_true, and_self, true_or, or_true, nI_1, Nat.reduceAdd, Nat.reduceLT, show roV sc 53 (i + 1).toNatClampNeg = nI (bs j + a) from e, roN]
    refine ⟨⟨by decide, hv⟩, ?_⟩
    refine cv2 rfl rfl (by first | exact rfl | exact trivial) (Ev_d (d' := d + 39) m1 (by omega)) ?_
    exact ck199 r16 (fun _ => r2) hn
  · refine ⟨th Y 1, 1, vI 1, vI 0, ⟨c, bs, nn, lp, lt, h.th 1⟩, by omega, fun o Z k2 hn => ?_⟩
    refine ev_seg rfl ?_
    simp only [TE, sxs, sx, ldI, ldA, stI, stA, inc, gtF, ptF, ldX, stX, ldR, ldL, stL, dp1, dp2, Tm, kS0, kS1, kS2, kS3, kS4, kS5, kS6, kS7, kS8, kS9, kS10, kS11, kS12, kS13, kS14, kS15, kS16, kS17, kS18, kS19, kS20, kS21, kS22, kS23, kS24, kS25, kS26, kS27, kS28, kS30, kS31, kS32, kS33, kS34, kS35, kS36, kS37, kS38, kS39, kS40, kS41, kS42, kS43, kS51, kS52, kS53, List.getElem?_cons_zero, List.getElem?_cons_succ, List.set_cons_zero, List.set_cons_succ, List.length_cons, List.length_nil, List.drop_succ_cons, List.drop_zero, List.cons_append, List.nil_append, Option.toList_some, Option.toList_none, cz, ci2, true_and, and_true, and_self, true_or, or_true, nI_1, Nat.reduceAdd, Nat.reduceLT, roN]
    refine ⟨⟨by decide, hv⟩, ?_⟩
    refine cl_retk rfl rfl rfl (by first | exact rfl | exact trivial) (Ev_d (d' := d + 39) (w_th164_0 (d := 3) (s_noTeam1 (d := 0) (y := 81) h.1 ht (by decide))) (by omega)) ?_
    refine ev_seg rfl ?_
    simp only [TE, sxs, sx, ldI, ldA, stI, stA, inc, gtF, ptF, ldX, stX, ldR, ldL, stL, dp1, dp2, Tm, kS0, kS1, kS2, kS3, kS4, kS5, kS6, kS7, kS8, kS9, kS10, kS11, kS12, kS13, kS14, kS15, kS16, kS17, kS18, kS19, kS20, kS21, kS22, kS23, kS24, kS25, kS26, kS27, kS28, kS30, kS31, kS32, kS33, kS34, kS35, kS36, kS37, kS38, kS39, kS40, kS41, kS42, kS43, kS51, kS52, kS53, List.getElem?_cons_zero, List.getElem?_cons_succ, List.set_cons_zero, List.set_cons_succ, List.length_cons, List.length_nil, List.drop_succ_cons, List.drop_zero, List.cons_append, List.nil_append, Option.toList_some, Option.toList_none, cz, ci2, true_and, and_true, and_self, true_or, or_true, nI_1, Nat.reduceAdd, Nat.reduceLT, roN]
    refine ⟨⟨by decide, hv⟩, ?_⟩
    refine cv2 rfl rfl (by first | exact rfl | exact trivial) (Ev_d (d' := d + 39) (s_MnoTeam (d := 0) (y := 140) h.2.1 ht (by decide)) (by omega)) ?_
    exact ck199 (th_16 _ _) (fun w => absurd w (by decide)) hn
theorem cs208 (h : BI Y c bs nn lp lt) {i : Int32} (hv : vp_in (i + 1) sc.1) : CS sc d 208 Y i := by
  intro z5 z6
  by_cases ht : isT bs c (rd sc (i + 1))
  · obtain ⟨j, a, hj, ha, e⟩ := h.1.team ht
    obtain ⟨Z1, a1, f1⟩ := s_badWay (sc := sc) (d := 0) h.1 hj ha
    have h1 : BI ((Z1.1, (oI (lowL (psd (nn j) a lp 0) (lfA (scC Y (nI j)) (nn j)).reverse (PZ Y (nI j) (nn j)))).toInt64) : XT) c bs nn lp lt := (h.fr f1 (by decide)).snd _
    obtain ⟨X', m1, m2⟩ := s_MbadWay (sc := sc) (d := 0) h1.2.1 hj ha
    have r16 : X'.1 30 0 0 16 = 0 := (m2.at 30 (by decide) _ _ _).trans (th_16 _ _)
    have r2 : X'.2 = (oI (lowL (psd (nn j) a lp 0) (lfA (scC Y (nI j)) (nn j)).reverse (PZ Y (nI j) (nn j)))).toInt64 := m2.1
    have h3 := (h1.th 0).fr m2 (by decide)
    have hS0 : scC Z1 (nI j) = scC Y (nI j) := scC_fr f1 (by decide)
    have hS : scC ((Z1.1, (oI (lowL (psd (nn j) a lp 0) (lfA (scC Y (nI j)) (nn j)).reverse (PZ Y (nI j) (nn j)))).toInt64) : XT) (nI j) = scC Y (nI j) := hS0
    have hZ0 : PZ Z1 (nI j) (nn j) = PZ Y (nI j) (nn j) := by
      funext s
      exact congrArg Int32.toInt (congrFun (PX_fr f1 (by decide) (by decide)) s)
    have hZ : PZ ((Z1.1, (oI (lowL (psd (nn j) a lp 0) (lfA (scC Y (nI j)) (nn j)).reverse (PZ Y (nI j) (nn j)))).toInt64) : XT) (nI j) (nn j) = PZ Y (nI j) (nn j) := hZ0
    have he : lowL (psd (nn j) a lp 0) (lfA (scM ((Z1.1, (oI (lowL (psd (nn j) a lp 0) (lfA (scC Y (nI j)) (nn j)).reverse (PZ Y (nI j) (nn j)))).toInt64) : XT) (bs j)) (nn j)).reverse (PZM ((Z1.1, (oI (lowL (psd (nn j) a lp 0) (lfA (scC Y (nI j)) (nn j)).reverse (PZ Y (nI j) (nn j)))).toInt64) : XT) (bs j) (nn j)) = lowL (psd (nn j) a lp 0) (lfA (scC Y (nI j)) (nn j)).reverse (PZ Y (nI j) (nn j)) := (h1.2.2.1.bw hj ha).trans (by rw [hS, hZ])
    rw [he] at m1
    refine ⟨X', 0, vI 0, vI (oI (lowL (psd (nn j) a lp 0) (lfA (scC Y (nI j)) (nn j)).reverse (PZ Y (nI j) (nn j)))), ⟨c, bs, nn, lp, lt, h3⟩, by omega, fun o Z k2 hn => ?_⟩
    rw [Nat.zero_add]
    refine ev_seg rfl ?_
    simp only [TE, sxs, sx, ldI, ldA, stI, stA, inc, gtF, ptF, ldX, stX, ldR, ldL, stL, dp1, dp2, Tm, kS0, kS1, kS2, kS3, kS4, kS5, kS6, kS7, kS8, kS9, kS10, kS11, kS12, kS13, kS14, kS15, kS16, kS17, kS18, kS19, kS20, kS21, kS22, kS23, kS24, kS25, kS26, kS27, kS28, kS30, kS31, kS32, kS33, kS34, kS35, kS36, kS37, kS38, kS39, kS40, kS41, kS42, kS43, kS51, kS52, kS53, List.getElem?_cons_zero, List.getElem?_cons_succ, List.set_cons_zero, List.set_cons_succ, List.length_cons, List.length_nil, List.drop_succ_cons, List.drop_zero, List.cons_append, List.nil_append, Option.toList_some, Option.toList_none, cz, ci2, true_and, and_true, and_self, true_or, or_true, nI_1, Nat.reduceAdd, Nat.reduceLT, show roV sc 53 (i + 1).toNatClampNeg = nI (bs j + a) from e, roN]
    refine ⟨⟨by decide, hv⟩, ?_⟩
    refine cv3 rfl rfl (by first | exact rfl | exact trivial) (Ev_d (d' := d + 39) (w_ok165 (d := 14) a1) (by omega)) ?_
    refine ev_seg rfl ?_
    simp only [TE, sxs, sx, ldI, ldA, stI, stA, inc, gtF, ptF, ldX, stX, ldR, ldL, stL, dp1, dp2, Tm, kS0, kS1, kS2, kS3, kS4, kS5, kS6, kS7, kS8, kS9, kS10, kS11, kS12, kS13, kS14, kS15, kS16, kS17, kS18, kS19, kS20, kS21, kS22, kS23, kS24, kS25, kS26, kS27, kS28, kS30, kS31, kS32, kS33, kS34, kS35, kS36, kS37, kS38, kS39, kS40, kS41, kS42, kS43, kS51, kS52, kS53, List.getElem?_cons_zero, List.getElem?_cons_succ, List.set_cons_zero, List.set_cons_succ, List.length_cons, List.length_nil, List.drop_succ_cons, List.drop_zero, List.cons_append, List.nil_append, Option.toList_some, Option.toList_none, cz, ci2, true_and, and_true, and_self, true_or, or_true, nI_1, Nat.reduceAdd, Nat.reduceLT, show roV sc 53 (i + 1).toNatClampNeg = nI (bs j + a) from e, roN]
    refine ⟨⟨by decide, hv⟩, ?_⟩
    refine cv2 rfl rfl (by first | exact rfl | exact trivial) (Ev_d (d' := d + 39) m1 (by omega)) ?_
    exact ck208 r16 (fun _ => r2) hn
  · refine ⟨th Y 1, 1, vI 1, vI 0, ⟨c, bs, nn, lp, lt, h.th 1⟩, by omega, fun o Z k2 hn => ?_⟩
    refine ev_seg rfl ?_
    simp only [TE, sxs, sx, ldI, ldA, stI, stA, inc, gtF, ptF, ldX, stX, ldR, ldL, stL, dp1, dp2, Tm, kS0, kS1, kS2, kS3, kS4, kS5, kS6, kS7, kS8, kS9, kS10, kS11, kS12, kS13, kS14, kS15, kS16, kS17, kS18, kS19, kS20, kS21, kS22, kS23, kS24, kS25, kS26, kS27, kS28, kS30, kS31, kS32, kS33, kS34, kS35, kS36, kS37, kS38, kS39, kS40, kS41, kS42, kS43, kS51, kS52, kS53, List.getElem?_cons_zero, List.getElem?_cons_succ, List.set_cons_zero, List.set_cons_succ, List.length_cons, List.length_nil, List.drop_succ_cons, List.drop_zero, List.cons_append, List.nil_append, Option.toList_some, Option.toList_none, cz, ci2, true_and, and_true, and_self, true_or, or_true, nI_1, Nat.reduceAdd, Nat.reduceLT, roN]
    refine ⟨⟨by decide, hv⟩, ?_⟩
    refine cl_retk rfl rfl rfl (by first | exact rfl | exact trivial) (Ev_d (d' := d + 39) (w_th165_0 (d := 3) (s_noTeam1 (d := 0) (y := 82) h.1 ht (by decide))) (by omega)) ?_
    refine ev_seg rfl ?_
    simp only [TE, sxs, sx, ldI, ldA, stI, stA, inc, gtF, ptF, ldX, stX, ldR, ldL, stL, dp1, dp2, Tm, kS0, kS1, kS2, kS3, kS4, kS5, kS6, kS7, kS8, kS9, kS10, kS11, kS12, kS13, kS14, kS15, kS16, kS17, kS18, kS19, kS20, kS21, kS22, kS23, kS24, kS25, kS26, kS27, kS28, kS30, kS31, kS32, kS33, kS34, kS35, kS36, kS37, kS38, kS39, kS40, kS41, kS42, kS43, kS51, kS52, kS53, List.getElem?_cons_zero, List.getElem?_cons_succ, List.set_cons_zero, List.set_cons_succ, List.length_cons, List.length_nil, List.drop_succ_cons, List.drop_zero, List.cons_append, List.nil_append, Option.toList_some, Option.toList_none, cz, ci2, true_and, and_true, and_self, true_or, or_true, nI_1, Nat.reduceAdd, Nat.reduceLT, roN]
    refine ⟨⟨by decide, hv⟩, ?_⟩
    refine cv2 rfl rfl (by first | exact rfl | exact trivial) (Ev_d (d' := d + 39) (s_MnoTeam (d := 0) (y := 141) h.2.1 ht (by decide)) (by omega)) ?_
    exact ck208 (th_16 _ _) (fun w => absurd w (by decide)) hn
theorem cs190 (h : BI Y c bs nn lp lt) {i : Int32} (hv : vp_in (i + 1) sc.1) : CS sc d 190 Y i := by
  intro z5 z6
  by_cases ht : isT bs c (rd sc (i + 1))
  · obtain ⟨j, a, hj, ha, e⟩ := h.1.team ht
    obtain ⟨Z1, a1, f1⟩ := s_waysSafe (sc := sc) (d := 0) h.1 hj ha
    have h1 : BI ((Z1.1, (nI (3 ^ (lfA (scC Y (nI j)) (nn j)).length) - nI (CW Y nn lp j a 0)).toInt64) : XT) c bs nn lp lt := (h.fr f1 (by decide)).snd _
    obtain ⟨X', m1, m2⟩ := s_MwaysSafe (sc := sc) (d := 0) h1.2.1 hj ha
    have r16 : X'.1 30 0 0 16 = 0 := (m2.at 30 (by decide) _ _ _).trans (th_16 _ _)
    have r2 : X'.2 = (nI (3 ^ (lfA (scC Y (nI j)) (nn j)).length) - nI (CW Y nn lp j a 0)).toInt64 := m2.1
    have h3 := (h1.th 0).fr m2 (by decide)
    have hS0 : scC Z1 (nI j) = scC Y (nI j) := scC_fr f1 (by decide)
    have hZ0 : PZ Z1 (nI j) (nn j) = PZ Y (nI j) (nn j) := by
      funext s
      exact congrArg Int32.toInt (congrFun (PX_fr f1 (by decide) (by decide)) s)
    have he0 : CW Z1 nn lp j a 0 = CW Y nn lp j a 0 := by unfold CW; rw [hS0, hZ0]
    have hl : lfA (scC Z1 (nI j)) (nn j) = lfA (scC Y (nI j)) (nn j) := by rw [hS0]
    have he1 : CWM ((Z1.1, (nI (3 ^ (lfA (scC Y (nI j)) (nn j)).length) - nI (CW Y nn lp j a 0)).toInt64) : XT) bs nn lp j a 0 = CW Y nn lp j a 0 := (h1.2.2.1.cw hj ha).trans he0
    have he2 : lfA (scM ((Z1.1, (nI (3 ^ (lfA (scC Y (nI j)) (nn j)).length) - nI (CW Y nn lp j a 0)).toInt64) : XT) (bs j)) (nn j) = lfA (scC Y (nI j)) (nn j) := (h1.2.2.1.lf hj).trans hl
    have he : nI (3 ^ (lfA (scM ((Z1.1, (nI (3 ^ (lfA (scC Y (nI j)) (nn j)).length) - nI (CW Y nn lp j a 0)).toInt64) : XT) (bs j)) (nn j)).length) - nI (CWM ((Z1.1, (nI (3 ^ (lfA (scC Y (nI j)) (nn j)).length) - nI (CW Y nn lp j a 0)).toInt64) : XT) bs nn lp j a 0) = nI (3 ^ (lfA (scC Y (nI j)) (nn j)).length) - nI (CW Y nn lp j a 0) := by rw [he1, he2]
    rw [he] at m1
    refine ⟨X', 0, vI 0, vI (nI (3 ^ (lfA (scC Y (nI j)) (nn j)).length) - nI (CW Y nn lp j a 0)), ⟨c, bs, nn, lp, lt, h3⟩, by omega, fun o Z k2 hn => ?_⟩
    rw [Nat.zero_add]
    refine ev_seg rfl ?_
    simp only [TE, sxs, sx, ldI, ldA, stI, stA, inc, gtF, ptF, ldX, stX, ldR, ldL, stL, dp1, dp2, Tm, kS0, kS1, kS2, kS3, kS4, kS5, kS6, kS7, kS8, kS9, kS10, kS11, kS12, kS13, kS14, kS15, kS16, kS17, kS18, kS19, kS20, kS21, kS22, kS23, kS24, kS25, kS26, kS27, kS28, kS30, kS31, kS32, kS33, kS34, kS35, kS36, kS37, kS38, kS39, kS40, kS41, kS42, kS43, kS51, kS52, kS53, List.getElem?_cons_zero, List.getElem?_cons_succ, List.set_cons_zero, List.set_cons_succ, List.length_cons, List.length_nil, List.drop_succ_cons, List.drop_zero, List.cons_append, List.nil_append, Option.toList_some, Option.toList_none, cz, ci2, true_and, and_true, and_self, true_or, or_true, nI_1, Nat.reduceAdd, Nat.reduceLT, show roV sc 53 (i + 1).toNatClampNeg = nI (bs j + a) from e, roN]
    refine ⟨⟨by decide, hv⟩, ?_⟩
    refine cv3 rfl rfl (by first | exact rfl | exact trivial) (Ev_d (d' := d + 39) (w_ok163 (d := 14) a1) (by omega)) ?_
    refine ev_seg rfl ?_
    simp only [TE, sxs, sx, ldI, ldA, stI, stA, inc, gtF, ptF, ldX, stX, ldR, ldL, stL, dp1, dp2, Tm, kS0, kS1, kS2, kS3, kS4, kS5, kS6, kS7, kS8, kS9, kS10, kS11, kS12, kS13, kS14, kS15, kS16, kS17, kS18, kS19, kS20, kS21, kS22, kS23, kS24, kS25, kS26, kS27, kS28, kS30, kS31, kS32, kS33, kS34, kS35, kS36, kS37, kS38, kS39, kS40, kS41, kS42, kS43, kS51, kS52, kS53, List.getElem?_cons_zero, List.getElem?_cons_succ, List.set_cons_zero, List.set_cons_succ, List.length_cons, List.length_nil, List.drop_succ_cons, List.drop_zero, List.cons_append, List.nil_append, Option.toList_some, Option.toList_none, cz, ci2, true_and, and_true, and_self, true_or, or_true, nI_1, Nat.reduceAdd, Nat.reduceLT, show roV sc 53 (i + 1).toNatClampNeg = nI (bs j + a) from e, roN]
    refine ⟨⟨by decide, hv⟩, ?_⟩
    refine cv2 rfl rfl (by first | exact rfl | exact trivial) (Ev_d (d' := d + 39) m1 (by omega)) ?_
    exact ck190 r16 (fun _ => r2) hn
  · refine ⟨th Y 1, 1, vI 1, vI 0, ⟨c, bs, nn, lp, lt, h.th 1⟩, by omega, fun o Z k2 hn => ?_⟩
    refine ev_seg rfl ?_
    simp only [TE, sxs, sx, ldI, ldA, stI, stA, inc, gtF, ptF, ldX, stX, ldR, ldL, stL, dp1, dp2, Tm, kS0, kS1, kS2, kS3, kS4, kS5, kS6, kS7, kS8, kS9, kS10, kS11, kS12, kS13, kS14, kS15, kS16, kS17, kS18, kS19, kS20, kS21, kS22, kS23, kS24, kS25, kS26, kS27, kS28, kS30, kS31, kS32, kS33, kS34, kS35, kS36, kS37, kS38, kS39, kS40, kS41, kS42, kS43, kS51, kS52, kS53, List.getElem?_cons_zero, List.getElem?_cons_succ, List.set_cons_zero, List.set_cons_succ, List.length_cons, List.length_nil, List.drop_succ_cons, List.drop_zero, List.cons_append, List.nil_append, Option.toList_some, Option.toList_none, cz, ci2, true_and, and_true, and_self, true_or, or_true, nI_1, Nat.reduceAdd, Nat.reduceLT, roN]
    refine ⟨⟨by decide, hv⟩, ?_⟩
    refine cl_retk rfl rfl rfl (by first | exact rfl | exact trivial) (Ev_d (d' := d + 39) (w_th163_0 (d := 3) (s_noTeam1 (d := 0) (y := 80) h.1 ht (by decide))) (by omega)) ?_
    refine ev_seg rfl ?_
    simp only [TE, sxs, sx, ldI, ldA, stI, stA, inc, gtF, ptF, ldX, stX, ldR, ldL, stL, dp1, dp2, Tm, kS0, kS1, kS2, kS3, kS4, kS5, kS6, kS7, kS8, kS9, kS10, kS11, kS12, kS13, kS14, kS15, kS16, kS17, kS18, kS19, kS20, kS21, kS22, kS23, kS24, kS25, kS26, kS27, kS28, kS30, kS31, kS32, kS33, kS34, kS35, kS36, kS37, kS38, kS39, kS40, kS41, kS42, kS43, kS51, kS52, kS53, List.getElem?_cons_zero, List.getElem?_cons_succ, List.set_cons_zero, List.set_cons_succ, List.length_cons, List.length_nil, List.drop_succ_cons, List.drop_zero, List.cons_append, List.nil_append, Option.toList_some, Option.toList_none, cz, ci2, true_and, and_true, and_self, true_or, or_true, nI_1, Nat.reduceAdd, Nat.reduceLT, roN]
    refine ⟨⟨by decide, hv⟩, ?_⟩
    refine cv2 rfl rfl (by first | exact rfl | exact trivial) (Ev_d (d' := d + 39) (s_MnoTeam (d := 0) (y := 139) h.2.1 ht (by decide)) (by omega)) ?_
    exact ck190 (th_16 _ _) (fun w => absurd w (by decide)) hn
end Ca3
