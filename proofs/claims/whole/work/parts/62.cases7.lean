/-! the law: the cases that change something -/
section Ca7
variable {sc : SC} {d : Nat} {Y : XT} {c lp lt : Nat} {bs nn : Nat → Nat}
theorem xs_k (F : XF) {k q : Nat} (a b j x : Int32) (h : q ≠ k) : xs F k a b j x q = F q := by
  funext u z y
  unfold xs
  rw [if_neg (fun w => h w.1)]
theorem rng {B : Nat} (hB : B < 999) {v t : Int32} (ht : t = nI (B + 1) - 1) (h : 0 ≤ v ∧ v ≤ t) : ∃ x, x ≤ B ∧ v = nI x := by
  rw [ht] at h
  obtain ⟨x, h1, h2⟩ := (in_nat (by omega)).mp h
  exact ⟨x, by omega, h2⟩
theorem cs217 (h : BI Y c bs nn lp lt) {i : Int32} (hv : vp_in (i + 1) sc.1) : CS sc d 217 Y i := by
  intro z5 z6
  by_cases ht : isT bs c (rd sc (i + 1))
  · obtain ⟨j, a, hj, ha, e⟩ := h.1.team ht
    have n5 := (h.1.n3 hj).2
    by_cases hl3 : (lfA (scC Y (nI j)) (nn j)).length ≤ 3
    · obtain ⟨Z1, a1, f1⟩ := s_scoresThrough (sc := sc) (d := 0) h.1 hj ha hl3
      have hS0 : scC Z1 (nI j) = scC Y (nI j) := scC_fr f1 (by decide)
      have eV := cntX_S (g := nI j) (pl := lp) n5 ha (lfA (scC Y (nI j)) (nn j)).reverse (X := Y) (fun q hq => by
        have := lfA_mem (List.mem_reverse.mp hq)
        exact ⟨by omega, by omega⟩) (h.1.g4 hj)
      generalize cntX (nI j) (nn j) a lp (lfA (scC Y (nI j)) (nn j)).reverse Y = V at a1 eV
      have h1 : BI ((Z1.1, (nI V).toInt64) : XT) c bs nn lp lt := (h.fr f1 (by decide)).snd _
      have hS : scC ((Z1.1, (nI V).toInt64) : XT) (nI j) = scC Y (nI j) := hS0
      have hW5 : ((Z1.1, (nI V).toInt64) : XT).1 5 = Y.1 5 := f1.2 5 (by decide)
      have hW6 : ((Z1.1, (nI V).toInt64) : XT).1 6 = Y.1 6 := f1.2 6 (by decide)
      have hW7 : ((Z1.1, (nI V).toInt64) : XT).1 7 = Y.1 7 := f1.2 7 (by decide)
      generalize hW : ((Z1.1, (nI V).toInt64) : XT) = W at h1 hS hW5 hW6 hW7
      have hl := h1.2.2.1.lf hj
      rw [hS] at hl
      obtain ⟨X', m1, m2⟩ := (s_MscoresThrough (sc := sc) (d := 0) h1.2.1 hj ha).1 (by rw [hl]; exact hl3)
      have he : cntS (tstS W (bs j) (nn j) a lp) (lfA (scM W (bs j)) (nn j)).reverse (scM W (bs j)) = V := by
        rw [hl, eV]
        have hcp := h1.2.2.1 j hj
        refine cntS_congr (n := nn j) (fun S S' hSS => ?_) _ (by rw [← hS]; exact hcp.1)
        unfold tstS
        rw [PTs_SE hSS (fun z hz => ?_) ha]
        have q := hcp.2 z hz
        rw [hW5, hW6, hW7] at q
        exact q
      rw [he] at m1
      have r16 : X'.1 30 0 0 16 = 0 := (m2.at 30 (by decide) _ _ _).trans (th_16 _ _)
      have r2 : X'.2 = (nI V).toInt64 := m2.1.trans (by rw [← hW]; rfl)
      have h3 := (h1.th 0).fr m2 (by decide)
      refine ⟨X', 0, vI 0, vI (nI V), ⟨c, bs, nn, lp, lt, h3⟩, by omega, fun o Z k2 hn => ?_⟩
      rw [Nat.zero_add]
      refine ev_seg rfl ?_
      simp only [TE, sxs, sx, ldI, ldA, stI, stA, inc, gtF, ptF, ldX, stX, ldR, ldL, stL, dp1, dp2, Tm, kS0, kS1, kS2, kS3, kS4, kS5, kS6, kS7, kS8, kS9, kS10, kS11, kS12, kS13, kS14, kS15, kS16, kS17, kS18, kS19, kS20, kS21, kS22, kS23, kS24, kS25, kS26, kS27, kS28, kS30, kS31, kS32, kS33, kS34, kS35, kS36, kS37, kS38, kS39, kS40, kS41, kS42, kS43, kS51, kS52, kS53, List.getElem?_cons_zero, List.getElem?_cons_succ, List.set_cons_zero, List.set_cons_succ, List.length_cons, List.length_nil, List.drop_succ_cons, List.drop_zero, List.cons_append, List.nil_append, Option.toList_some, Option.toList_none, cz, ci2, true_and, and_true, and_self, true_or, or_true, nI_1, Nat.reduceAdd, Nat.reduceLT, show roV sc 53 (i + 1).toNatClampNeg = nI (bs j + a) from e, roN]
      refine ⟨⟨by decide, hv⟩, ?_⟩
      refine cv3 rfl rfl (by first | exact rfl | exact trivial) (Ev_d (d' := d + 39) (w_ok166 (d := 24) a1) (by omega)) ?_
      rw [hW]
      refine ev_seg rfl ?_
      simp only [TE, sxs, sx, ldI, ldA, stI, stA, inc, gtF, ptF, ldX, stX, ldR, ldL, stL, dp1, dp2, Tm, kS0, kS1, kS2, kS3, kS4, kS5, kS6, kS7, kS8, kS9, kS10, kS11, kS12, kS13, kS14, kS15, kS16, kS17, kS18, kS19, kS20, kS21, kS22, kS23, kS24, kS25, kS26, kS27, kS28, kS30, kS31, kS32, kS33, kS34, kS35, kS36, kS37, kS38, kS39, kS40, kS41, kS42, kS43, kS51, kS52, kS53, List.getElem?_cons_zero, List.getElem?_cons_succ, List.set_cons_zero, List.set_cons_succ, List.length_cons, List.length_nil, List.drop_succ_cons, List.drop_zero, List.cons_append, List.nil_append, Option.toList_some, Option.toList_none, cz, ci2, true_and, and_true, and_self, true_or, or_true, nI_1, Nat.reduceAdd, Nat.reduceLT, show roV sc 53 (i + 1).toNatClampNeg = nI (bs j + a) from e, roN]
      refine ⟨⟨by decide, hv⟩, ?_⟩
      refine cv2 rfl rfl (by first | exact rfl | exact trivial) (Ev_d (d' := d + 39) m1 (by omega)) ?_
      exact ck217 r16 (fun _ => r2) hn
    · have hl := h.2.2.1.lf hj
      refine ⟨th Y 2, 1, vI 2, vI 0, ⟨c, bs, nn, lp, lt, h.th 2⟩, by omega, fun o Z k2 hn => ?_⟩
      refine ev_seg rfl ?_
      simp only [TE, sxs, sx, ldI, ldA, stI, stA, inc, gtF, ptF, ldX, stX, ldR, ldL, stL, dp1, dp2, Tm, kS0, kS1, kS2, kS3, kS4, kS5, kS6, kS7, kS8, kS9, kS10, kS11, kS12, kS13, kS14, kS15, kS16, kS17, kS18, kS19, kS20, kS21, kS22, kS23, kS24, kS25, kS26, kS27, kS28, kS30, kS31, kS32, kS33, kS34, kS35, kS36, kS37, kS38, kS39, kS40, kS41, kS42, kS43, kS51, kS52, kS53, List.getElem?_cons_zero, List.getElem?_cons_succ, List.set_cons_zero, List.set_cons_succ, List.length_cons, List.length_nil, List.drop_succ_cons, List.drop_zero, List.cons_append, List.nil_append, Option.toList_some, Option.toList_none, cz, ci2, true_and, and_true, and_self, true_or, or_true, nI_1, Nat.reduceAdd, Nat.reduceLT, show roV sc 53 (i + 1).toNatClampNeg = nI (bs j + a) from e, roN]
      refine ⟨⟨by decide, hv⟩, ?_⟩
      refine cl_retk rfl rfl rfl (by first | exact rfl | exact trivial) (Ev_d (d' := d + 39) (w_th166_2 (d := 24) (s_scoresThroughX (d := 0) h.1 hj ha hl3)) (by omega)) ?_
      refine ev_seg rfl ?_
      simp only [TE, sxs, sx, ldI, ldA, stI, stA, inc, gtF, ptF, ldX, stX, ldR, ldL, stL, dp1, dp2, Tm, kS0, kS1, kS2, kS3, kS4, kS5, kS6, kS7, kS8, kS9, kS10, kS11, kS12, kS13, kS14, kS15, kS16, kS17, kS18, kS19, kS20, kS21, kS22, kS23, kS24, kS25, kS26, kS27, kS28, kS30, kS31, kS32, kS33, kS34, kS35, kS36, kS37, kS38, kS39, kS40, kS41, kS42, kS43, kS51, kS52, kS53, List.getElem?_cons_zero, List.getElem?_cons_succ, List.set_cons_zero, List.set_cons_succ, List.length_cons, List.length_nil, List.drop_succ_cons, List.drop_zero, List.cons_append, List.nil_append, Option.toList_some, Option.toList_none, cz, ci2, true_and, and_true, and_self, true_or, or_true, nI_1, Nat.reduceAdd, Nat.reduceLT, show roV sc 53 (i + 1).toNatClampNeg = nI (bs j + a) from e, roN]
      refine ⟨⟨by decide, hv⟩, ?_⟩
      refine cv2 rfl rfl (by first | exact rfl | exact trivial) (Ev_d (d' := d + 39) ((s_MscoresThrough (d := 0) h.2.1 hj ha).2 (by rw [hl]; exact hl3)) (by omega)) ?_
      exact ck217 (th_16 _ _) (fun w => absurd w (by decide)) hn
  · refine ⟨th Y 1, 1, vI 1, vI 0, ⟨c, bs, nn, lp, lt, h.th 1⟩, by omega, fun o Z k2 hn => ?_⟩
    refine ev_seg rfl ?_
    simp only [TE, sxs, sx, ldI, ldA, stI, stA, inc, gtF, ptF, ldX, stX, ldR, ldL, stL, dp1, dp2, Tm, kS0, kS1, kS2, kS3, kS4, kS5, kS6, kS7, kS8, kS9, kS10, kS11, kS12, kS13, kS14, kS15, kS16, kS17, kS18, kS19, kS20, kS21, kS22, kS23, kS24, kS25, kS26, kS27, kS28, kS30, kS31, kS32, kS33, kS34, kS35, kS36, kS37, kS38, kS39, kS40, kS41, kS42, kS43, kS51, kS52, kS53, List.getElem?_cons_zero, List.getElem?_cons_succ, List.set_cons_zero, List.set_cons_succ, List.length_cons, List.length_nil, List.drop_succ_cons, List.drop_zero, List.cons_append, List.nil_append, Option.toList_some, Option.toList_none, cz, ci2, true_and, and_true, and_self, true_or, or_true, nI_1, Nat.reduceAdd, Nat.reduceLT, roN]
    refine ⟨⟨by decide, hv⟩, ?_⟩
    refine cl_retk rfl rfl rfl (by first | exact rfl | exact trivial) (Ev_d (d' := d + 39) (w_th166_0 (d := 3) (s_noTeam1 (d := 0) (y := 83) h.1 ht (by decide))) (by omega)) ?_
    refine ev_seg rfl ?_
    simp only [TE, sxs, sx, ldI, ldA, stI, stA, inc, gtF, ptF, ldX, stX, ldR, ldL, stL, dp1, dp2, Tm, kS0, kS1, kS2, kS3, kS4, kS5, kS6, kS7, kS8, kS9, kS10, kS11, kS12, kS13, kS14, kS15, kS16, kS17, kS18, kS19, kS20, kS21, kS22, kS23, kS24, kS25, kS26, kS27, kS28, kS30, kS31, kS32, kS33, kS34, kS35, kS36, kS37, kS38, kS39, kS40, kS41, kS42, kS43, kS51, kS52, kS53, List.getElem?_cons_zero, List.getElem?_cons_succ, List.set_cons_zero, List.set_cons_succ, List.length_cons, List.length_nil, List.drop_succ_cons, List.drop_zero, List.cons_append, List.nil_append, Option.toList_some, Option.toList_none, cz, ci2, true_and, and_true, and_self, true_or, or_true, nI_1, Nat.reduceAdd, Nat.reduceLT, roN]
    refine ⟨⟨by decide, hv⟩, ?_⟩
    refine cv2 rfl rfl (by first | exact rfl | exact trivial) (Ev_d (d' := d + 39) (s_MscoresX (d := 0) h.2.1 ht) (by omega)) ?_
    exact ck217 (th_16 _ _) (fun w => absurd w (by decide)) hn
theorem cs29 (h : BI Y c bs nn lp lt) {i : Int32} (hv : vp_in (i + 1) sc.1) (hv2 : vp_in (i + 2) sc.1) : CS sc d 29 Y i := by
  intro z5 z6
  by_cases ht : isT bs c (rd sc (i + 1))
  · obtain ⟨j, a, hj, ha, e⟩ := h.1.team ht
    by_cases hr : 0 ≤ rd sc (i + 2) ∧ rd sc (i + 2) ≤ 20
    · have a1 := (s_takeAway (sc := sc) (d := 0) h.1 hj ha (v := rd sc (i + 2))).1 hr
      have fT : Fr [5] ((Y.1, (Y.1 5 0 (nI j) (nI a)).toInt64) : XT) ((xs Y.1 5 0 (nI j) (nI a) (rd sc (i + 2)), (Y.1 5 0 (nI j) (nI a)).toInt64) : XT) := Fr.xs ((Y.1, (Y.1 5 0 (nI j) (nI a)).toInt64) : XT) _ _ _ _ (List.mem_singleton.mpr rfl)
      have MW := (h.snd (Y.1 5 0 (nI j) (nI a)).toInt64).2.1.fr fT (by decide) (by decide) (by decide) (by decide) (by decide) (by decide) (by decide) (by decide)
      have m1 := (s_MtakeAway (sc := sc) (d := 0) MW hj ha (v := rd sc (i + 2))).1 hr
      have he : ((xs Y.1 5 0 (nI j) (nI a) (rd sc (i + 2)), (Y.1 5 0 (nI j) (nI a)).toInt64) : XT).1 34 0 0 (nI (bs j + a)) = Y.1 5 0 (nI j) (nI a) := (fT.at 34 (by decide) _ _ _).trans ((h.2.2.1 j hj).2 a ha).1
      rw [he] at m1
      have hB := BI_set5 ((h.snd (Y.1 5 0 (nI j) (nI a)).toInt64).th 0) hj ha (rng (by decide) (by decide) hr)
      have eF : ((xs (xs (th ((Y.1, (Y.1 5 0 (nI j) (nI a)).toInt64) : XT) 0).1 5 0 (nI j) (nI a) (rd sc (i + 2))) 34 0 0 (nI (bs j + a)) (rd sc (i + 2)), (th ((Y.1, (Y.1 5 0 (nI j) (nI a)).toInt64) : XT) 0).2) : XT) = (xs (th ((xs Y.1 5 0 (nI j) (nI a) (rd sc (i + 2)), (Y.1 5 0 (nI j) (nI a)).toInt64) : XT) 0).1 34 0 0 (nI (bs j + a)) (rd sc (i + 2)), ((xs Y.1 5 0 (nI j) (nI a) (rd sc (i + 2)), (Y.1 5 0 (nI j) (nI a)).toInt64) : XT).2) := by
        show ((xs (xs (xs Y.1 30 0 0 16 0) 5 0 (nI j) (nI a) (rd sc (i + 2))) 34 0 0 (nI (bs j + a)) (rd sc (i + 2)), (Y.1 5 0 (nI j) (nI a)).toInt64) : XT) = (xs (xs (xs Y.1 5 0 (nI j) (nI a) (rd sc (i + 2))) 30 0 0 16 0) 34 0 0 (nI (bs j + a)) (rd sc (i + 2)), (Y.1 5 0 (nI j) (nI a)).toInt64)
        rw [xs_cm Y.1 (show (30 : Nat) ≠ 5 by decide)]
      rw [eF] at hB
      have r16 : ((xs (th ((xs Y.1 5 0 (nI j) (nI a) (rd sc (i + 2)), (Y.1 5 0 (nI j) (nI a)).toInt64) : XT) 0).1 34 0 0 (nI (bs j + a)) (rd sc (i + 2)), ((xs Y.1 5 0 (nI j) (nI a) (rd sc (i + 2)), (Y.1 5 0 (nI j) (nI a)).toInt64) : XT).2) : XT).1 30 0 0 16 = 0 := ((Fr.xs (th ((xs Y.1 5 0 (nI j) (nI a) (rd sc (i + 2)), (Y.1 5 0 (nI j) (nI a)).toInt64) : XT) 0) 0 0 (nI (bs j + a)) (rd sc (i + 2)) (List.mem_singleton.mpr (show (34 : Nat) = 34 from rfl))).at 30 (by decide) 0 0 16).trans (th_16 _ _)
      refine ⟨_, 0, vI 0, vI (Y.1 5 0 (nI j) (nI a)), ⟨c, bs, nn, lp, lt, hB⟩, by omega, fun o Z k2 hn => ?_⟩
      rw [Nat.zero_add]
      refine ev_seg rfl ?_
      simp only [TE, sxs, sx, ldI, ldA, stI, stA, inc, gtF, ptF, ldX, stX, ldR, ldL, stL, dp1, dp2, Tm, kS0, kS1, kS2, kS3, kS4, kS5, kS6, kS7, kS8, kS9, kS10, kS11, kS12, kS13, kS14, kS15, kS16, kS17, kS18, kS19, kS20, kS21, kS22, kS23, kS24, kS25, kS26, kS27, kS28, kS30, kS31, kS32, kS33, kS34, kS35, kS36, kS37, kS38, kS39, kS40, kS41, kS42, kS43, kS51, kS52, kS53, List.getElem?_cons_zero, List.getElem?_cons_succ, List.set_cons_zero, List.set_cons_succ, List.length_cons, List.length_nil, List.drop_succ_cons, List.drop_zero, List.cons_append, List.nil_append, Option.toList_some, Option.toList_none, cz, ci2, true_and, and_true, and_self, true_or, or_true, nI_1, Nat.reduceAdd, Nat.reduceLT, show roV sc 53 (i + 1).toNatClampNeg = nI (bs j + a) from e, roN]
      refine ⟨(by first | assumption | (and_intros <;> first | assumption | trivial | decide)), ?_⟩
      refine cv4 rfl rfl (by first | exact rfl | exact trivial) (Ev_d (d' := d + 39) (w_ok146 (d := 3) a1) (by omega)) ?_
      refine ev_seg rfl ?_
      simp only [TE, sxs, sx, ldI, ldA, stI, stA, inc, gtF, ptF, ldX, stX, ldR, ldL, stL, dp1, dp2, Tm, kS0, kS1, kS2, kS3, kS4, kS5, kS6, kS7, kS8, kS9, kS10, kS11, kS12, kS13, kS14, kS15, kS16, kS17, kS18, kS19, kS20, kS21, kS22, kS23, kS24, kS25, kS26, kS27, kS28, kS30, kS31, kS32, kS33, kS34, kS35, kS36, kS37, kS38, kS39, kS40, kS41, kS42, kS43, kS51, kS52, kS53, List.getElem?_cons_zero, List.getElem?_cons_succ, List.set_cons_zero, List.set_cons_succ, List.length_cons, List.length_nil, List.drop_succ_cons, List.drop_zero, List.cons_append, List.nil_append, Option.toList_some, Option.toList_none, cz, ci2, true_and, and_true, and_self, true_or, or_true, nI_1, Nat.reduceAdd, Nat.reduceLT, show roV sc 53 (i + 1).toNatClampNeg = nI (bs j + a) from e, roN]
      refine ⟨(by first | assumption | (and_intros <;> first | assumption | trivial | decide)), ?_⟩
      refine cv3 rfl rfl (by first | exact rfl | exact trivial) (Ev_d (d' := d + 39) m1 (by omega)) ?_
      exact ck29 r16 (fun _ => rfl) hn
    · refine ⟨th Y 2, 1, vI 2, vI 0, ⟨c, bs, nn, lp, lt, h.th 2⟩, by omega, fun o Z k2 hn => ?_⟩
      refine ev_seg rfl ?_
      simp only [TE, sxs, sx, ldI, ldA, stI, stA, inc, gtF, ptF, ldX, stX, ldR, ldL, stL, dp1, dp2, Tm, kS0, kS1, kS2, kS3, kS4, kS5, kS6, kS7, kS8, kS9, kS10, kS11, kS12, kS13, kS14, kS15, kS16, kS17, kS18, kS19, kS20, kS21, kS22, kS23, kS24, kS25, kS26, kS27, kS28, kS30, kS31, kS32, kS33, kS34, kS35, kS36, kS37, kS38, kS39, kS40, kS41, kS42, kS43, kS51, kS52, kS53, List.getElem?_cons_zero, List.getElem?_cons_succ, List.set_cons_zero, List.set_cons_succ, List.length_cons, List.length_nil, List.drop_succ_cons, List.drop_zero, List.cons_append, List.nil_append, Option.toList_some, Option.toList_none, cz, ci2, true_and, and_true, and_self, true_or, or_true, nI_1, Nat.reduceAdd, Nat.reduceLT, show roV sc 53 (i + 1).toNatClampNeg = nI (bs j + a) from e, roN]
      refine ⟨(by first | assumption | (and_intros <;> first | assumption | trivial | decide)), ?_⟩
      refine cl_retk rfl rfl rfl (by first | exact rfl | exact trivial) (Ev_d (d' := d + 39) (w_th146_1 (d := 3) ((s_takeAway (d := 0) h.1 hj ha).2 hr)) (by omega)) ?_
      refine ev_seg rfl ?_
      simp only [TE, sxs, sx, ldI, ldA, stI, stA, inc, gtF, ptF, ldX, stX, ldR, ldL, stL, dp1, dp2, Tm, kS0, kS1, kS2, kS3, kS4, kS5, kS6, kS7, kS8, kS9, kS10, kS11, kS12, kS13, kS14, kS15, kS16, kS17, kS18, kS19, kS20, kS21, kS22, kS23, kS24, kS25, kS26, kS27, kS28, kS30, kS31, kS32, kS33, kS34, kS35, kS36, kS37, kS38, kS39, kS40, kS41, kS42, kS43, kS51, kS52, kS53, List.getElem?_cons_zero, List.getElem?_cons_succ, List.set_cons_zero, List.set_cons_succ, List.length_cons, List.length_nil, List.drop_succ_cons, List.drop_zero, List.cons_append, List.nil_append, Option.toList_some, Option.toList_none, cz, ci2, true_and, and_true, and_self, true_or, or_true, nI_1, Nat.reduceAdd, Nat.reduceLT, show roV sc 53 (i + 1).toNatClampNeg = nI (bs j + a) from e, roN]
      refine ⟨(by first | assumption | (and_intros <;> first | assumption | trivial | decide)), ?_⟩
      refine cv3 rfl rfl (by first | exact rfl | exact trivial) (Ev_d (d' := d + 39) ((s_MtakeAway (d := 0) h.2.1 hj ha).2 hr) (by omega)) ?_
      exact ck29 (th_16 _ _) (fun w => absurd w (by decide)) hn
  · refine ⟨th Y 1, 1, vI 1, vI 0, ⟨c, bs, nn, lp, lt, h.th 1⟩, by omega, fun o Z k2 hn => ?_⟩
    refine ev_seg rfl ?_
    simp only [TE, sxs, sx, ldI, ldA, stI, stA, inc, gtF, ptF, ldX, stX, ldR, ldL, stL, dp1, dp2, Tm, kS0, kS1, kS2, kS3, kS4, kS5, kS6, kS7, kS8, kS9, kS10, kS11, kS12, kS13, kS14, kS15, kS16, kS17, kS18, kS19, kS20, kS21, kS22, kS23, kS24, kS25, kS26, kS27, kS28, kS30, kS31, kS32, kS33, kS34, kS35, kS36, kS37, kS38, kS39, kS40, kS41, kS42, kS43, kS51, kS52, kS53, List.getElem?_cons_zero, List.getElem?_cons_succ, List.set_cons_zero, List.set_cons_succ, List.length_cons, List.length_nil, List.drop_succ_cons, List.drop_zero, List.cons_append, List.nil_append, Option.toList_some, Option.toList_none, cz, ci2, true_and, and_true, and_self, true_or, or_true, nI_1, Nat.reduceAdd, Nat.reduceLT, roN]
    refine ⟨(by first | assumption | (and_intros <;> first | assumption | trivial | decide)), ?_⟩
    refine cl_retk rfl rfl rfl (by first | exact rfl | exact trivial) (Ev_d (d' := d + 39) (w_th146_0 (d := 3) (s_noTeam2 (d := 0) (y := 61) h.1 ht (by decide))) (by omega)) ?_
    refine ev_seg rfl ?_
    simp only [TE, sxs, sx, ldI, ldA, stI, stA, inc, gtF, ptF, ldX, stX, ldR, ldL, stL, dp1, dp2, Tm, kS0, kS1, kS2, kS3, kS4, kS5, kS6, kS7, kS8, kS9, kS10, kS11, kS12, kS13, kS14, kS15, kS16, kS17, kS18, kS19, kS20, kS21, kS22, kS23, kS24, kS25, kS26, kS27, kS28, kS30, kS31, kS32, kS33, kS34, kS35, kS36, kS37, kS38, kS39, kS40, kS41, kS42, kS43, kS51, kS52, kS53, List.getElem?_cons_zero, List.getElem?_cons_succ, List.set_cons_zero, List.set_cons_succ, List.length_cons, List.length_nil, List.drop_succ_cons, List.drop_zero, List.cons_append, List.nil_append, Option.toList_some, Option.toList_none, cz, ci2, true_and, and_true, and_self, true_or, or_true, nI_1, Nat.reduceAdd, Nat.reduceLT, roN]
    refine ⟨(by first | assumption | (and_intros <;> first | assumption | trivial | decide)), ?_⟩
    refine cv3 rfl rfl (by first | exact rfl | exact trivial) (Ev_d (d' := d + 39) (s_MtakeAwayX (d := 0) h.2.1 ht) (by omega)) ?_
    exact ck29 (th_16 _ _) (fun w => absurd w (by decide)) hn
theorem cs38 (h : BI Y c bs nn lp lt) {i : Int32} (hv : vp_in (i + 1) sc.1) (hv2 : vp_in (i + 2) sc.1) : CS sc d 38 Y i := by
  intro z5 z6
  by_cases ht : isT bs c (rd sc (i + 1))
  · obtain ⟨j, a, hj, ha, e⟩ := h.1.team ht
    by_cases hr : 0 ≤ rd sc (i + 2) ∧ rd sc (i + 2) ≤ 50
    · have a1 := (s_setCards (sc := sc) (d := 0) h.1 hj ha (v := rd sc (i + 2))).1 hr
      have fT : Fr [6] ((Y.1, (Y.1 6 0 (nI j) (nI a)).toInt64) : XT) ((xs Y.1 6 0 (nI j) (nI a) (rd sc (i + 2)), (Y.1 6 0 (nI j) (nI a)).toInt64) : XT) := Fr.xs ((Y.1, (Y.1 6 0 (nI j) (nI a)).toInt64) : XT) _ _ _ _ (List.mem_singleton.mpr rfl)
      have MW := (h.snd (Y.1 6 0 (nI j) (nI a)).toInt64).2.1.fr fT (by decide) (by decide) (by decide) (by decide) (by decide) (by decide) (by decide) (by decide)
      have m1 := (s_MsetCards (sc := sc) (d := 0) MW hj ha (v := rd sc (i + 2))).1 hr
      have he : ((xs Y.1 6 0 (nI j) (nI a) (rd sc (i + 2)), (Y.1 6 0 (nI j) (nI a)).toInt64) : XT).1 35 0 0 (nI (bs j + a)) = Y.1 6 0 (nI j) (nI a) := (fT.at 35 (by decide) _ _ _).trans ((h.2.2.1 j hj).2 a ha).2.1
      rw [he] at m1
      have hB := BI_set6 ((h.snd (Y.1 6 0 (nI j) (nI a)).toInt64).th 0) hj ha (rng (by decide) (by decide) hr)
      have eF : ((xs (xs (th ((Y.1, (Y.1 6 0 (nI j) (nI a)).toInt64) : XT) 0).1 6 0 (nI j) (nI a) (rd sc (i + 2))) 35 0 0 (nI (bs j + a)) (rd sc (i + 2)), (th ((Y.1, (Y.1 6 0 (nI j) (nI a)).toInt64) : XT) 0).2) : XT) = (xs (th ((xs Y.1 6 0 (nI j) (nI a) (rd sc (i + 2)), (Y.1 6 0 (nI j) (nI a)).toInt64) : XT) 0).1 35 0 0 (nI (bs j + a)) (rd sc (i + 2)), ((xs Y.1 6 0 (nI j) (nI a) (rd sc (i + 2)), (Y.1 6 0 (nI j) (nI a)).toInt64) : XT).2) := by
        show ((xs (xs (xs Y.1 30 0 0 16 0) 6 0 (nI j) (nI a) (rd sc (i + 2))) 35 0 0 (nI (bs j + a)) (rd sc (i + 2)), (Y.1 6 0 (nI j) (nI a)).toInt64) : XT) = (xs (xs (xs Y.1 6 0 (nI j) (nI a) (rd sc (i + 2))) 30 0 0 16 0) 35 0 0 (nI (bs j + a)) (rd sc (i + 2)), (Y.1 6 0 (nI j) (nI a)).toInt64)
        rw [xs_cm Y.1 (show (30 : Nat) ≠ 6 by decide)]
      rw [eF] at hB
      have r16 : ((xs (th ((xs Y.1 6 0 (nI j) (nI a) (rd sc (i + 2)), (Y.1 6 0 (nI j) (nI a)).toInt64) : XT) 0).1 35 0 0 (nI (bs j + a)) (rd sc (i + 2)), ((xs Y.1 6 0 (nI j) (nI a) (rd sc (i + 2)), (Y.1 6 0 (nI j) (nI a)).toInt64) : XT).2) : XT).1 30 0 0 16 = 0 := ((Fr.xs (th ((xs Y.1 6 0 (nI j) (nI a) (rd sc (i + 2)), (Y.1 6 0 (nI j) (nI a)).toInt64) : XT) 0) 0 0 (nI (bs j + a)) (rd sc (i + 2)) (List.mem_singleton.mpr (show (35 : Nat) = 35 from rfl))).at 30 (by decide) 0 0 16).trans (th_16 _ _)
      refine ⟨_, 0, vI 0, vI (Y.1 6 0 (nI j) (nI a)), ⟨c, bs, nn, lp, lt, hB⟩, by omega, fun o Z k2 hn => ?_⟩
      rw [Nat.zero_add]
      refine ev_seg rfl ?_
      simp only [TE, sxs, sx, ldI, ldA, stI, stA, inc, gtF, ptF, ldX, stX, ldR, ldL, stL, dp1, dp2, Tm, kS0, kS1, kS2, kS3, kS4, kS5, kS6, kS7, kS8, kS9, kS10, kS11, kS12, kS13, kS14, kS15, kS16, kS17, kS18, kS19, kS20, kS21, kS22, kS23, kS24, kS25, kS26, kS27, kS28, kS30, kS31, kS32, kS33, kS34, kS35, kS36, kS37, kS38, kS39, kS40, kS41, kS42, kS43, kS51, kS52, kS53, List.getElem?_cons_zero, List.getElem?_cons_succ, List.set_cons_zero, List.set_cons_succ, List.length_cons, List.length_nil, List.drop_succ_cons, List.drop_zero, List.cons_append, List.nil_append, Option.toList_some, Option.toList_none, cz, ci2, true_and, and_true, and_self, true_or, or_true, nI_1, Nat.reduceAdd, Nat.reduceLT, show roV sc 53 (i + 1).toNatClampNeg = nI (bs j + a) from e, roN]
      refine ⟨(by first | assumption | (and_intros <;> first | assumption | trivial | decide)), ?_⟩
      refine cv4 rfl rfl (by first | exact rfl | exact trivial) (Ev_d (d' := d + 39) (w_ok147 (d := 3) a1) (by omega)) ?_
      refine ev_seg rfl ?_
      simp only [TE, sxs, sx, ldI, ldA, stI, stA, inc, gtF, ptF, ldX, stX, ldR, ldL, stL, dp1, dp2, Tm, kS0, kS1, kS2, kS3, kS4, kS5, kS6, kS7, kS8, kS9, kS10, kS11, kS12, kS13, kS14, kS15, kS16, kS17, kS18, kS19, kS20, kS21, kS22, kS23, kS24, kS25, kS26, kS27, kS28, kS30, kS31, kS32, kS33, kS34, kS35, kS36, kS37, kS38, kS39, kS40, kS41, kS42, kS43, kS51, kS52, kS53, List.getElem?_cons_zero, List.getElem?_cons_succ, List.set_cons_zero, List.set_cons_succ, List.length_cons, List.length_nil, List.drop_succ_cons, List.drop_zero, List.cons_append, List.nil_append, Option.toList_some, Option.toList_none, cz, ci2, true_and, and_true, and_self, true_or, or_true, nI_1, Nat.reduceAdd, Nat.reduceLT, show roV sc 53 (i + 1).toNatClampNeg = nI (bs j + a) from e, roN]
      refine ⟨(by first | assumption | (and_intros <;> first | assumption | trivial | decide)), ?_⟩
      refine cv3 rfl rfl (by first | exact rfl | exact trivial) (Ev_d (d' := d + 39) m1 (by omega)) ?_
      exact ck38 r16 (fun _ => rfl) hn
    · refine ⟨th Y 2, 1, vI 2, vI 0, ⟨c, bs, nn, lp, lt, h.th 2⟩, by omega, fun o Z k2 hn => ?_⟩
      refine ev_seg rfl ?_
      simp only [TE, sxs, sx, ldI, ldA, stI, stA, inc, gtF, ptF, ldX, stX, ldR, ldL, stL, dp1, dp2, Tm, kS0, kS1, kS2, kS3, kS4, kS5, kS6, kS7, kS8, kS9, kS10, kS11, kS12, kS13, kS14, kS15, kS16, kS17, kS18, kS19, kS20, kS21, kS22, kS23, kS24, kS25, kS26, kS27, kS28, kS30, kS31, kS32, kS33, kS34, kS35, kS36, kS37, kS38, kS39, kS40, kS41, kS42, kS43, kS51, kS52, kS53, List.getElem?_cons_zero, List.getElem?_cons_succ, List.set_cons_zero, List.set_cons_succ, List.length_cons, List.length_nil, List.drop_succ_cons, List.drop_zero, List.cons_append, List.nil_append, Option.toList_some, Option.toList_none, cz, ci2, true_and, and_true, and_self, true_or, or_true, nI_1, Nat.reduceAdd, Nat.reduceLT, show roV sc 53 (i + 1).toNatClampNeg = nI (bs j + a) from e, roN]
      refine ⟨(by first | assumption | (and_intros <;> first | assumption | trivial | decide)), ?_⟩
      refine cl_retk rfl rfl rfl (by first | exact rfl | exact trivial) (Ev_d (d' := d + 39) (w_th147_1 (d := 3) ((s_setCards (d := 0) h.1 hj ha).2 hr)) (by omega)) ?_
      refine ev_seg rfl ?_
      simp only [TE, sxs, sx, ldI, ldA, stI, stA, inc, gtF, ptF, ldX, stX, ldR, ldL, stL, dp1, dp2, Tm, kS0, kS1, kS2, kS3, kS4, kS5, kS6, kS7, kS8, kS9, kS10, kS11, kS12, kS13, kS14, kS15, kS16, kS17, kS18, kS19, kS20, kS21, kS22, kS23, kS24, kS25, kS26, kS27, kS28, kS30, kS31, kS32, kS33, kS34, kS35, kS36, kS37, kS38, kS39, kS40, kS41, kS42, kS43, kS51, kS52, kS53, List.getElem?_cons_zero, List.getElem?_cons_succ, List.set_cons_zero, List.set_cons_succ, List.length_cons, List.length_nil, List.drop_succ_cons, List.drop_zero, List.cons_append, List.nil_append, Option.toList_some, Option.toList_none, cz, ci2, true_and, and_true, and_self, true_or, or_true, nI_1, Nat.reduceAdd, Nat.reduceLT, show roV sc 53 (i + 1).toNatClampNeg = nI (bs j + a) from e, roN]
      refine ⟨(by first | assumption | (and_intros <;> first | assumption | trivial | decide)), ?_⟩
      refine cv3 rfl rfl (by first | exact rfl | exact trivial) (Ev_d (d' := d + 39) ((s_MsetCards (d := 0) h.2.1 hj ha).2 hr) (by omega)) ?_
      exact ck38 (th_16 _ _) (fun w => absurd w (by decide)) hn
  · refine ⟨th Y 1, 1, vI 1, vI 0, ⟨c, bs, nn, lp, lt, h.th 1⟩, by omega, fun o Z k2 hn => ?_⟩
    refine ev_seg rfl ?_
    simp only [TE, sxs, sx, ldI, ldA, stI, stA, inc, gtF, ptF, ldX, stX, ldR, ldL, stL, dp1, dp2, Tm, kS0, kS1, kS2, kS3, kS4, kS5, kS6, kS7, kS8, kS9, kS10, kS11, kS12, kS13, kS14, kS15, kS16, kS17, kS18, kS19, kS20, kS21, kS22, kS23, kS24, kS25, kS26, kS27, kS28, kS30, kS31, kS32, kS33, kS34, kS35, kS36, kS37, kS38, kS39, kS40, kS41, kS42, kS43, kS51, kS52, kS53, List.getElem?_cons_zero, List.getElem?_cons_succ, List.set_cons_zero, List.set_cons_succ, List.length_cons, List.length_nil, List.drop_succ_cons, List.drop_zero, List.cons_append, List.nil_append, Option.toList_some, Option.toList_none, cz, ci2, true_and, and_true, and_self, true_or, or_true, nI_1, Nat.reduceAdd, Nat.reduceLT, roN]
    refine ⟨(by first | assumption | (and_intros <;> first | assumption | trivial | decide)), ?_⟩
    refine cl_retk rfl rfl rfl (by first | exact rfl | exact trivial) (Ev_d (d' := d + 39) (w_th147_0 (d := 3) (s_noTeam2 (d := 0) (y := 62) h.1 ht (by decide))) (by omega)) ?_
    refine ev_seg rfl ?_
    simp only [TE, sxs, sx, ldI, ldA, stI, stA, inc, gtF, ptF, ldX, stX, ldR, ldL, stL, dp1, dp2, Tm, kS0, kS1, kS2, kS3, kS4, kS5, kS6, kS7, kS8, kS9, kS10, kS11, kS12, kS13, kS14, kS15, kS16, kS17, kS18, kS19, kS20, kS21, kS22, kS23, kS24, kS25, kS26, kS27, kS28, kS30, kS31, kS32, kS33, kS34, kS35, kS36, kS37, kS38, kS39, kS40, kS41, kS42, kS43, kS51, kS52, kS53, List.getElem?_cons_zero, List.getElem?_cons_succ, List.set_cons_zero, List.set_cons_succ, List.length_cons, List.length_nil, List.drop_succ_cons, List.drop_zero, List.cons_append, List.nil_append, Option.toList_some, Option.toList_none, cz, ci2, true_and, and_true, and_self, true_or, or_true, nI_1, Nat.reduceAdd, Nat.reduceLT, roN]
    refine ⟨(by first | assumption | (and_intros <;> first | assumption | trivial | decide)), ?_⟩
    refine cv3 rfl rfl (by first | exact rfl | exact trivial) (Ev_d (d' := d + 39) (s_MsetCardsX (d := 0) h.2.1 ht) (by omega)) ?_
    exact ck38 (th_16 _ _) (fun w => absurd w (by decide)) hn
theorem cs47 (h : BI Y c bs nn lp lt) {i : Int32} (hv : vp_in (i + 1) sc.1) (hv2 : vp_in (i + 2) sc.1) : CS sc d 47 Y i := by
  intro z5 z6
  by_cases ht : isT bs c (rd sc (i + 1))
  · obtain ⟨j, a, hj, ha, e⟩ := h.1.team ht
    by_cases hr : 0 ≤ rd sc (i + 2) ∧ rd sc (i + 2) ≤ 99
    · have a1 := (s_setLot (sc := sc) (d := 0) h.1 hj ha (v := rd sc (i + 2))).1 hr
      have fT : Fr [7] ((Y.1, (Y.1 7 0 (nI j) (nI a)).toInt64) : XT) ((xs Y.1 7 0 (nI j) (nI a) (rd sc (i + 2)), (Y.1 7 0 (nI j) (nI a)).toInt64) : XT) := Fr.xs ((Y.1, (Y.1 7 0 (nI j) (nI a)).toInt64) : XT) _ _ _ _ (List.mem_singleton.mpr rfl)
      have MW := (h.snd (Y.1 7 0 (nI j) (nI a)).toInt64).2.1.fr fT (by decide) (by decide) (by decide) (by decide) (by decide) (by decide) (by decide) (by decide)
      have m1 := (s_MsetLot (sc := sc) (d := 0) MW hj ha (v := rd sc (i + 2))).1 hr
      have he : ((xs Y.1 7 0 (nI j) (nI a) (rd sc (i + 2)), (Y.1 7 0 (nI j) (nI a)).toInt64) : XT).1 36 0 0 (nI (bs j + a)) = Y.1 7 0 (nI j) (nI a) := (fT.at 36 (by decide) _ _ _).trans ((h.2.2.1 j hj).2 a ha).2.2
      rw [he] at m1
      have hB := BI_set7 ((h.snd (Y.1 7 0 (nI j) (nI a)).toInt64).th 0) hj ha (rng (by decide) (by decide) hr)
      have eF : ((xs (xs (th ((Y.1, (Y.1 7 0 (nI j) (nI a)).toInt64) : XT) 0).1 7 0 (nI j) (nI a) (rd sc (i + 2))) 36 0 0 (nI (bs j + a)) (rd sc (i + 2)), (th ((Y.1, (Y.1 7 0 (nI j) (nI a)).toInt64) : XT) 0).2) : XT) = (xs (th ((xs Y.1 7 0 (nI j) (nI a) (rd sc (i + 2)), (Y.1 7 0 (nI j) (nI a)).toInt64) : XT) 0).1 36 0 0 (nI (bs j + a)) (rd sc (i + 2)), ((xs Y.1 7 0 (nI j) (nI a) (rd sc (i + 2)), (Y.1 7 0 (nI j) (nI a)).toInt64) : XT).2) := by
        show ((xs (xs (xs Y.1 30 0 0 16 0) 7 0 (nI j) (nI a) (rd sc (i + 2))) 36 0 0 (nI (bs j + a)) (rd sc (i + 2)), (Y.1 7 0 (nI j) (nI a)).toInt64) : XT) = (xs (xs (xs Y.1 7 0 (nI j) (nI a) (rd sc (i + 2))) 30 0 0 16 0) 36 0 0 (nI (bs j + a)) (rd sc (i + 2)), (Y.1 7 0 (nI j) (nI a)).toInt64)
        rw [xs_cm Y.1 (show (30 : Nat) ≠ 7 by decide)]
      rw [eF] at hB
      have r16 : ((xs (th ((xs Y.1 7 0 (nI j) (nI a) (rd sc (i + 2)), (Y.1 7 0 (nI j) (nI a)).toInt64) : XT) 0).1 36 0 0 (nI (bs j + a)) (rd sc (i + 2)), ((xs Y.1 7 0 (nI j) (nI a) (rd sc (i + 2)), (Y.1 7 0 (nI j) (nI a)).toInt64) : XT).2) : XT).1 30 0 0 16 = 0 := ((Fr.xs (th ((xs Y.1 7 0 (nI j) (nI a) (rd sc (i + 2)), (Y.1 7 0 (nI j) (nI a)).toInt64) : XT) 0) 0 0 (nI (bs j + a)) (rd sc (i + 2)) (List.mem_singleton.mpr (show (36 : Nat) = 36 from rfl))).at 30 (by decide) 0 0 16).trans (th_16 _ _)
      refine ⟨_, 0, vI 0, vI (Y.1 7 0 (nI j) (nI a)), ⟨c, bs, nn, lp, lt, hB⟩, by omega, fun o Z k2 hn => ?_⟩
      rw [Nat.zero_add]
      refine ev_seg rfl ?_
      simp only [TE, sxs, sx, ldI, ldA, stI, stA, inc, gtF, ptF, ldX, stX, ldR, ldL, stL, dp1, dp2, Tm, kS0, kS1, kS2, kS3, kS4, kS5, kS6, kS7, kS8, kS9, kS10, kS11, kS12, kS13, kS14, kS15, kS16, kS17, kS18, kS19, kS20, kS21, kS22, kS23, kS24, kS25, kS26, kS27, kS28, kS30, kS31, kS32, kS33, kS34, kS35, kS36, kS37, kS38, kS39, kS40, kS41, kS42, kS43, kS51, kS52, kS53, List.getElem?_cons_zero, List.getElem?_cons_succ, List.set_cons_zero, List.set_cons_succ, List.length_cons, List.length_nil, List.drop_succ_cons, List.drop_zero, List.cons_append, List.nil_append, Option.toList_some, Option.toList_none, cz, ci2, true_and, and_true, and_self, true_or, or_true, nI_1, Nat.reduceAdd, Nat.reduceLT, show roV sc 53 (i + 1).toNatClampNeg = nI (bs j + a) from e, roN]
      refine ⟨(by first | assumption | (and_intros <;> first | assumption | trivial | decide)), ?_⟩
      refine cv4 rfl rfl (by first | exact rfl | exact trivial) (Ev_d (d' := d + 39) (w_ok148 (d := 3) a1) (by omega)) ?_
      refine ev_seg rfl ?_
      simp only [TE, sxs, sx, ldI, ldA, stI, stA, inc, gtF, ptF, ldX, stX, ldR, ldL, stL, dp1, dp2, Tm, kS0, kS1, kS2, kS3, kS4, kS5, kS6, kS7, kS8, kS9, kS10, kS11, kS12, kS13, kS14, kS15, kS16, kS17, kS18, kS19, kS20, kS21, kS22, kS23, kS24, kS25, kS26, kS27, kS28, kS30, kS31, kS32, kS33, kS34, kS35, kS36, kS37, kS38, kS39, kS40, kS41, kS42, kS43, kS51, kS52, kS53, List.getElem?_cons_zero, List.getElem?_cons_succ, List.set_cons_zero, List.set_cons_succ, List.length_cons, List.length_nil, List.drop_succ_cons, List.drop_zero, List.cons_append, List.nil_append, Option.toList_some, Option.toList_none, cz, ci2, true_and, and_true, and_self, true_or, or_true, nI_1, Nat.reduceAdd, Nat.reduceLT, show roV sc 53 (i + 1).toNatClampNeg = nI (bs j + a) from e, roN]
      refine ⟨(by first | assumption | (and_intros <;> first | assumption | trivial | decide)), ?_⟩
      refine cv3 rfl rfl (by first | exact rfl | exact trivial) (Ev_d (d' := d + 39) m1 (by omega)) ?_
      exact ck47 r16 (fun _ => rfl) hn
    · refine ⟨th Y 2, 1, vI 2, vI 0, ⟨c, bs, nn, lp, lt, h.th 2⟩, by omega, fun o Z k2 hn => ?_⟩
      refine ev_seg rfl ?_
      simp only [TE, sxs, sx, ldI, ldA, stI, stA, inc, gtF, ptF, ldX, stX, ldR, ldL, stL, dp1, dp2, Tm, kS0, kS1, kS2, kS3, kS4, kS5, kS6, kS7, kS8, kS9, kS10, kS11, kS12, kS13, kS14, kS15, kS16, kS17, kS18, kS19, kS20, kS21, kS22, kS23, kS24, kS25, kS26, kS27, kS28, kS30, kS31, kS32, kS33, kS34, kS35, kS36, kS37, kS38, kS39, kS40, kS41, kS42, kS43, kS51, kS52, kS53, List.getElem?_cons_zero, List.getElem?_cons_succ, List.set_cons_zero, List.set_cons_succ, List.length_cons, List.length_nil, List.drop_succ_cons, List.drop_zero, List.cons_append, List.nil_append, Option.toList_some, Option.toList_none, cz, ci2, true_and, and_true, and_self, true_or, or_true, nI_1, Nat.reduceAdd, Nat.reduceLT, show roV sc 53 (i + 1).toNatClampNeg = nI (bs j + a) from e, roN]
      refine ⟨(by first | assumption | (and_intros <;> first | assumption | trivial | decide)), ?_⟩
      refine cl_retk rfl rfl rfl (by first | exact rfl | exact trivial) (Ev_d (d' := d + 39) (w_th148_1 (d := 3) ((s_setLot (d := 0) h.1 hj ha).2 hr)) (by omega)) ?_
      refine ev_seg rfl ?_
      simp only [TE, sxs, sx, ldI, ldA, stI, stA, inc, gtF, ptF, ldX, stX, ldR, ldL, stL, dp1, dp2, Tm, kS0, kS1, kS2, kS3, kS4, kS5, kS6, kS7, kS8, kS9, kS10, kS11, kS12, kS13, kS14, kS15, kS16, kS17, kS18, kS19, kS20, kS21, kS22, kS23, kS24, kS25, kS26, kS27, kS28, kS30, kS31, kS32, kS33, kS34, kS35, kS36, kS37, kS38, kS39, kS40, kS41, kS42, kS43, kS51, kS52, kS53, List.getElem?_cons_zero, List.getElem?_cons_succ, List.set_cons_zero, List.set_cons_succ, List.length_cons, List.length_nil, List.drop_succ_cons, List.drop_zero, List.cons_append, List.nil_append, Option.toList_some, Option.toList_none, cz, ci2, true_and, and_true, and_self, true_or, or_true, nI_1, Nat.reduceAdd, Nat.reduceLT, show roV sc 53 (i + 1).toNatClampNeg = nI (bs j + a) from e, roN]
      refine ⟨(by first | assumption | (and_intros <;> first | assumption | trivial | decide)), ?_⟩
      refine cv3 rfl rfl (by first | exact rfl | exact trivial) (Ev_d (d' := d + 39) ((s_MsetLot (d := 0) h.2.1 hj ha).2 hr) (by omega)) ?_
      exact ck47 (th_16 _ _) (fun w => absurd w (by decide)) hn
  · refine ⟨th Y 1, 1, vI 1, vI 0, ⟨c, bs, nn, lp, lt, h.th 1⟩, by omega, fun o Z k2 hn => ?_⟩
    refine ev_seg rfl ?_
    simp only [TE, sxs, sx, ldI, ldA, stI, stA, inc, gtF, ptF, ldX, stX, ldR, ldL, stL, dp1, dp2, Tm, kS0, kS1, kS2, kS3, kS4, kS5, kS6, kS7, kS8, kS9, kS10, kS11, kS12, kS13, kS14, kS15, kS16, kS17, kS18, kS19, kS20, kS21, kS22, kS23, kS24, kS25, kS26, kS27, kS28, kS30, kS31, kS32, kS33, kS34, kS35, kS36, kS37, kS38, kS39, kS40, kS41, kS42, kS43, kS51, kS52, kS53, List.getElem?_cons_zero, List.getElem?_cons_succ, List.set_cons_zero, List.set_cons_succ, List.length_cons, List.length_nil, List.drop_succ_cons, List.drop_zero, List.cons_append, List.nil_append, Option.toList_some, Option.toList_none, cz, ci2, true_and, and_true, and_self, true_or, or_true, nI_1, Nat.reduceAdd, Nat.reduceLT, roN]
    refine ⟨(by first | assumption | (and_intros <;> first | assumption | trivial | decide)), ?_⟩
    refine cl_retk rfl rfl rfl (by first | exact rfl | exact trivial) (Ev_d (d' := d + 39) (w_th148_0 (d := 3) (s_noTeam2 (d := 0) (y := 63) h.1 ht (by decide))) (by omega)) ?_
    refine ev_seg rfl ?_
    simp only [TE, sxs, sx, ldI, ldA, stI, stA, inc, gtF, ptF, ldX, stX, ldR, ldL, stL, dp1, dp2, Tm, kS0, kS1, kS2, kS3, kS4, kS5, kS6, kS7, kS8, kS9, kS10, kS11, kS12, kS13, kS14, kS15, kS16, kS17, kS18, kS19, kS20, kS21, kS22, kS23, kS24, kS25, kS26, kS27, kS28, kS30, kS31, kS32, kS33, kS34, kS35, kS36, kS37, kS38, kS39, kS40, kS41, kS42, kS43, kS51, kS52, kS53, List.getElem?_cons_zero, List.getElem?_cons_succ, List.set_cons_zero, List.set_cons_succ, List.length_cons, List.length_nil, List.drop_succ_cons, List.drop_zero, List.cons_append, List.nil_append, Option.toList_some, Option.toList_none, cz, ci2, true_and, and_true, and_self, true_or, or_true, nI_1, Nat.reduceAdd, Nat.reduceLT, roN]
    refine ⟨(by first | assumption | (and_intros <;> first | assumption | trivial | decide)), ?_⟩
    refine cv3 rfl rfl (by first | exact rfl | exact trivial) (Ev_d (d' := d + 39) (s_MsetLotX (d := 0) h.2.1 ht) (by omega)) ?_
    exact ck47 (th_16 _ _) (fun w => absurd w (by decide)) hn
theorem cs56 (h : BI Y c bs nn lp lt) {i : Int32} (hv : vp_in (i + 1) sc.1) (hv2 : vp_in (i + 2) sc.1) : CS sc d 56 Y i := by
  intro z5 z6
  by_cases hr : (1 ≤ rd sc (i + 1) ∧ rd sc (i + 1) ≤ 2) ∧ 0 ≤ rd sc (i + 2) ∧ rd sc (i + 2) ≤ 6
  · have a1 := (s_setThrough (sc := sc) (d := 0) (X := Y)).1 hr
    have m1 := (s_MsetThrough (sc := sc) (d := 0) (X := ((xs (xs Y.1 0 0 0 7 (rd sc (i + 1))) 0 0 0 8 (rd sc (i + 2)), Y.2) : XT))).1 hr
    obtain ⟨x, hx, ex⟩ := rng (B := 2) (by decide) (by decide) ⟨Int32.le_trans (show (0 : Int32) ≤ 1 by decide) hr.1.1, hr.1.2⟩
    obtain ⟨y, hy, ey⟩ := rng (B := 6) (by decide) (by decide) hr.2
    have hx1 : 1 ≤ x := Nat.pos_of_ne_zero fun w => by
      have := hr.1.1
      rw [ex, w] at this
      exact absurd this (by decide)
    have hB := BI_thr (h.th 0) ⟨hx1, hx⟩ hy
    rw [← ex, ← ey] at hB
    have eF : ((xs (xs (xs (xs (th Y 0).1 0 0 0 7 (rd sc (i + 1))) 0 0 0 8 (rd sc (i + 2))) 30 0 0 2 (rd sc (i + 1))) 30 0 0 3 (rd sc (i + 2)), (th Y 0).2) : XT) = (xs (xs (th ((xs (xs Y.1 0 0 0 7 (rd sc (i + 1))) 0 0 0 8 (rd sc (i + 2)), Y.2) : XT) 0).1 30 0 0 2 (rd sc (i + 1))) 30 0 0 3 (rd sc (i + 2)), ((xs (xs Y.1 0 0 0 7 (rd sc (i + 1))) 0 0 0 8 (rd sc (i + 2)), Y.2) : XT).2) := by
      show ((xs (xs (xs (xs (xs Y.1 30 0 0 16 0) 0 0 0 7 (rd sc (i + 1))) 0 0 0 8 (rd sc (i + 2))) 30 0 0 2 (rd sc (i + 1))) 30 0 0 3 (rd sc (i + 2)), Y.2) : XT) = (xs (xs (xs (xs (xs Y.1 0 0 0 7 (rd sc (i + 1))) 0 0 0 8 (rd sc (i + 2))) 30 0 0 16 0) 30 0 0 2 (rd sc (i + 1))) 30 0 0 3 (rd sc (i + 2)), Y.2)
      rw [xs_cm Y.1 (show (30 : Nat) ≠ 0 by decide), xs_cm _ (show (30 : Nat) ≠ 0 by decide)]
    rw [eF] at hB
    have r16 : ((xs (xs (th ((xs (xs Y.1 0 0 0 7 (rd sc (i + 1))) 0 0 0 8 (rd sc (i + 2)), Y.2) : XT) 0).1 30 0 0 2 (rd sc (i + 1))) 30 0 0 3 (rd sc (i + 2)), ((xs (xs Y.1 0 0 0 7 (rd sc (i + 1))) 0 0 0 8 (rd sc (i + 2)), Y.2) : XT).2) : XT).1 30 0 0 16 = 0 := by
      show xs (xs (th ((xs (xs Y.1 0 0 0 7 (rd sc (i + 1))) 0 0 0 8 (rd sc (i + 2)), Y.2) : XT) 0).1 30 0 0 2 (rd sc (i + 1))) 30 0 0 3 (rd sc (i + 2)) 30 0 0 16 = 0
      rw [xs_nj _ _ _ _ _ (by decide), xs_nj _ _ _ _ _ (by decide)]
      exact th_16 _ _
    refine ⟨_, 0, vI 0, z6, ⟨c, bs, nn, x, y, hB⟩, by omega, fun o Z k2 hn => ?_⟩
    rw [Nat.zero_add]
    refine ev_seg rfl ?_
    simp only [TE, sxs, sx, ldI, ldA, stI, stA, inc, gtF, ptF, ldX, stX, ldR, ldL, stL, dp1, dp2, Tm, kS0, kS1, kS2, kS3, kS4, kS5, kS6, kS7, kS8, kS9, kS10, kS11, kS12, kS13, kS14, kS15, kS16, kS17, kS18, kS19, kS20, kS21, kS22, kS23, kS24, kS25, kS26, kS27, kS28, kS30, kS31, kS32, kS33, kS34, kS35, kS36, kS37, kS38, kS39, kS40, kS41, kS42, kS43, kS51, kS52, kS53, List.getElem?_cons_zero, List.getElem?_cons_succ, List.set_cons_zero, List.set_cons_succ, List.length_cons, List.length_nil, List.drop_succ_cons, List.drop_zero, List.cons_append, List.nil_append, Option.toList_some, Option.toList_none, cz, ci2, true_and, and_true, and_self, true_or, or_true, nI_1, Nat.reduceAdd, Nat.reduceLT, roN]
    refine ⟨(by first | assumption | (and_intros <;> first | assumption | trivial | decide)), ?_⟩
    refine cv3 rfl rfl (by first | exact rfl | exact trivial) (Ev_d (d' := d + 39) (w_ok149 (d := 1) a1) (by omega)) ?_
    refine ev_seg rfl ?_
    simp only [TE, sxs, sx, ldI, ldA, stI, stA, inc, gtF, ptF, ldX, stX, ldR, ldL, stL, dp1, dp2, Tm, kS0, kS1, kS2, kS3, kS4, kS5, kS6, kS7, kS8, kS9, kS10, kS11, kS12, kS13, kS14, kS15, kS16, kS17, kS18, kS19, kS20, kS21, kS22, kS23, kS24, kS25, kS26, kS27, kS28, kS30, kS31, kS32, kS33, kS34, kS35, kS36, kS37, kS38, kS39, kS40, kS41, kS42, kS43, kS51, kS52, kS53, List.getElem?_cons_zero, List.getElem?_cons_succ, List.set_cons_zero, List.set_cons_succ, List.length_cons, List.length_nil, List.drop_succ_cons, List.drop_zero, List.cons_append, List.nil_append, Option.toList_some, Option.toList_none, cz, ci2, true_and, and_true, and_self, true_or, or_true, nI_1, Nat.reduceAdd, Nat.reduceLT, roN]
    refine ⟨(by first | assumption | (and_intros <;> first | assumption | trivial | decide)), ?_⟩
    refine cu3 rfl rfl (by first | exact rfl | exact trivial) (Ev_d (d' := d + 39) m1 (by omega)) ?_
    exact ck56 r16 hn
  · refine ⟨th Y 1, 1, vI 1, z6, ⟨c, bs, nn, lp, lt, h.th 1⟩, by omega, fun o Z k2 hn => ?_⟩
    refine ev_seg rfl ?_
    simp only [TE, sxs, sx, ldI, ldA, stI, stA, inc, gtF, ptF, ldX, stX, ldR, ldL, stL, dp1, dp2, Tm, kS0, kS1, kS2, kS3, kS4, kS5, kS6, kS7, kS8, kS9, kS10, kS11, kS12, kS13, kS14, kS15, kS16, kS17, kS18, kS19, kS20, kS21, kS22, kS23, kS24, kS25, kS26, kS27, kS28, kS30, kS31, kS32, kS33, kS34, kS35, kS36, kS37, kS38, kS39, kS40, kS41, kS42, kS43, kS51, kS52, kS53, List.getElem?_cons_zero, List.getElem?_cons_succ, List.set_cons_zero, List.set_cons_succ, List.length_cons, List.length_nil, List.drop_succ_cons, List.drop_zero, List.cons_append, List.nil_append, Option.toList_some, Option.toList_none, cz, ci2, true_and, and_true, and_self, true_or, or_true, nI_1, Nat.reduceAdd, Nat.reduceLT, roN]
    refine ⟨(by first | assumption | (and_intros <;> first | assumption | trivial | decide)), ?_⟩
    refine cl_retk rfl rfl rfl (by first | exact rfl | exact trivial) (Ev_d (d' := d + 39) (w_th149_1 (d := 1) ((s_setThrough (d := 0)).2 hr)) (by omega)) ?_
    refine ev_seg rfl ?_
    simp only [TE, sxs, sx, ldI, ldA, stI, stA, inc, gtF, ptF, ldX, stX, ldR, ldL, stL, dp1, dp2, Tm, kS0, kS1, kS2, kS3, kS4, kS5, kS6, kS7, kS8, kS9, kS10, kS11, kS12, kS13, kS14, kS15, kS16, kS17, kS18, kS19, kS20, kS21, kS22, kS23, kS24, kS25, kS26, kS27, kS28, kS30, kS31, kS32, kS33, kS34, kS35, kS36, kS37, kS38, kS39, kS40, kS41, kS42, kS43, kS51, kS52, kS53, List.getElem?_cons_zero, List.getElem?_cons_succ, List.set_cons_zero, List.set_cons_succ, List.length_cons, List.length_nil, List.drop_succ_cons, List.drop_zero, List.cons_append, List.nil_append, Option.toList_some, Option.toList_none, cz, ci2, true_and, and_true, and_self, true_or, or_true, nI_1, Nat.reduceAdd, Nat.reduceLT, roN]
    refine ⟨(by first | assumption | (and_intros <;> first | assumption | trivial | decide)), ?_⟩
    refine cu3 rfl rfl (by first | exact rfl | exact trivial) (Ev_d (d' := d + 39) ((s_MsetThrough (d := 0)).2 hr) (by omega)) ?_
    exact ck56 (th_16 _ _) hn
end Ca7
