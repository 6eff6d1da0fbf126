/-! the law: its cases -/
section Cas
variable {sc : SC} {d : Nat} {Y : XT} {c lp lt : Nat} {bs nn : Nat → Nat}
/-- what is not made yet -/
def FZ (X : XT) (c : Nat) (bs : Nat → Nat) : Prop := (∀ i a, c ≤ i → i < 6 → a < 5 → X.1 5 0 (nI i) (nI a) = 0 ∧ X.1 6 0 (nI i) (nI a) = 0) ∧ (∀ T, bs c ≤ T → T < 30 → X.1 34 0 0 (nI T) = 0 ∧ X.1 35 0 0 (nI T) = 0) ∧ ∀ k, 5 * bs c ≤ k → k < 150 → X.1 37 0 0 (nI k) = -1
def BI (X : XT) (c : Nat) (bs nn : Nat → Nat) (lp lt : Nat) : Prop := CI X c bs nn lp lt ∧ MI X c bs nn lp lt ∧ CP X c bs nn ∧ FZ X c bs
theorem BI.fr {K : List Nat} {X X' : XT} (h : BI X c bs nn lp lt) (hf : Fr K X X') (hK : ∀ k, k ∈ [0, 2, 4, 5, 6, 7, 30, 31, 32, 33, 34, 35, 36, 37] → k ∉ K) : BI X' c bs nn lp lt := by
  have e := fun k hk => hK k hk
  refine ⟨h.1.fr hf (e 0 (by decide)) (e 2 (by decide)) (e 4 (by decide)) (e 5 (by decide)) (e 6 (by decide)) (e 7 (by decide)), h.2.1.fr hf (e 30 (by decide)) (e 31 (by decide)) (e 32 (by decide)) (e 33 (by decide)) (e 34 (by decide)) (e 35 (by decide)) (e 36 (by decide)) (e 37 (by decide)), h.2.2.1.fr hf (e 4 (by decide)) (e 5 (by decide)) (e 6 (by decide)) (e 7 (by decide)) (e 34 (by decide)) (e 35 (by decide)) (e 36 (by decide)) (e 37 (by decide)), ?_⟩
  have hz := h.2.2.2
  unfold FZ at hz ⊢
  rw [hf.2 5 (e 5 (by decide)), hf.2 6 (e 6 (by decide)), hf.2 34 (e 34 (by decide)), hf.2 35 (e 35 (by decide)), hf.2 37 (e 37 (by decide))]
  exact hz
theorem BI.snd {X : XT} (h : BI X c bs nn lp lt) (v : Int64) : BI (X.1, v) c bs nn lp lt := h
theorem BI.th {X : XT} (h : BI X c bs nn lp lt) (v : Int32) : BI (th X v) c bs nn lp lt := by
  have hf := th_fr X v
  refine ⟨h.1.fr hf (by decide) (by decide) (by decide) (by decide) (by decide) (by decide), h.2.1.th v, h.2.2.1.fr hf (by decide) (by decide) (by decide) (by decide) (by decide) (by decide) (by decide) (by decide), ?_⟩
  have hz := h.2.2.2
  unfold FZ at hz ⊢
  rw [hf.2 5 (by decide), hf.2 6 (by decide), hf.2 34 (by decide), hf.2 35 (by decide), hf.2 37 (by decide)]
  exact hz
/-- a case of the law: it goes on with both holding the same -/
def CS (sc : SC) (d : Nat) (s : Nat) (Y : XT) (i : Int32) : Prop := ∀ z5 z6, ∃ (Y' : XT) (k1 : Nat) (y5 y6 : AV), (∃ c' bs' nn' lp' lt', BI Y' c' bs' nn' lp' lt') ∧ k1 ≤ 1 ∧ ∀ o Z k2, Ev sc (d + 40) 168 226 (lwL (vI i) y5 y6) [] Y' o Z k2 → Ev sc (d + 40) 168 s (lwL (vI i) z5 z6) [] Y o Z (k1 + k2)
theorem cs62 (h : BI Y c bs nn lp lt) {i : Int32} : CS sc d 62 Y i := by
  intro z5 z6
  refine ⟨th Y 0, 0, z5, z6, ⟨c, bs, nn, lp, lt, h.th 0⟩, by omega, fun o Z k2 hn => ?_⟩
  rw [Nat.zero_add]
  refine ev_seg rfl ?_
  simp only [TE, sxs, sx, ldI, ldA, stI, stA, inc, gtF, ptF, ldX, stX, ldR, ldL, stL, dp1, dp2, Tm, kS0, kS1, kS2, kS3, kS4, kS5, kS6, kS7, kS8, kS9, kS10, kS11, kS12, kS13, kS14, kS15, kS16, kS17, kS18, kS19, kS20, kS21, kS22, kS23, kS24, kS25, kS26, kS27, kS28, kS30, kS31, kS32, kS33, kS34, kS35, kS36, kS37, kS38, kS39, kS40, kS41, kS42, kS43, kS51, kS52, kS53, List.getElem?_cons_zero, List.getElem?_cons_succ, List.set_cons_zero, List.set_cons_succ, List.length_cons, List.length_nil, List.drop_succ_cons, List.drop_zero, List.cons_append, List.nil_append, Option.toList_some, Option.toList_none, cz, ci2, true_and, and_true, and_self, true_or, or_true, nI_1, Nat.reduceAdd, Nat.reduceLT]
  refine cv1 rfl rfl (by first | exact rfl | exact trivial) (s_groups h.1) ?_
  refine ev_seg rfl ?_
  simp only [TE, sxs, sx, ldI, ldA, stI, stA, inc, gtF, ptF, ldX, stX, ldR, ldL, stL, dp1, dp2, Tm, kS0, kS1, kS2, kS3, kS4, kS5, kS6, kS7, kS8, kS9, kS10, kS11, kS12, kS13, kS14, kS15, kS16, kS17, kS18, kS19, kS20, kS21, kS22, kS23, kS24, kS25, kS26, kS27, kS28, kS30, kS31, kS32, kS33, kS34, kS35, kS36, kS37, kS38, kS39, kS40, kS41, kS42, kS43, kS51, kS52, kS53, List.getElem?_cons_zero, List.getElem?_cons_succ, List.set_cons_zero, List.set_cons_succ, List.length_cons, List.length_nil, List.drop_succ_cons, List.drop_zero, List.cons_append, List.nil_append, Option.toList_some, Option.toList_none, cz, ci2, true_and, and_true, and_self, true_or, or_true, nI_1, Nat.reduceAdd, Nat.reduceLT]
  refine cv1 rfl rfl (by first | exact rfl | exact trivial) (Ev_d (d' := d + 39) (s_Mgroups (d := 0) h.2.1) (by omega)) ?_
  exact ck62 hn
theorem cs66 (h : BI Y c bs nn lp lt) {i : Int32} : CS sc d 66 Y i := by
  intro z5 z6
  refine ⟨th Y 0, 0, z5, z6, ⟨c, bs, nn, lp, lt, h.th 0⟩, by omega, fun o Z k2 hn => ?_⟩
  rw [Nat.zero_add]
  refine ev_seg rfl ?_
  simp only [TE, sxs, sx, ldI, ldA, stI, stA, inc, gtF, ptF, ldX, stX, ldR, ldL, stL, dp1, dp2, Tm, kS0, kS1, kS2, kS3, kS4, kS5, kS6, kS7, kS8, kS9, kS10, kS11, kS12, kS13, kS14, kS15, kS16, kS17, kS18, kS19, kS20, kS21, kS22, kS23, kS24, kS25, kS26, kS27, kS28, kS30, kS31, kS32, kS33, kS34, kS35, kS36, kS37, kS38, kS39, kS40, kS41, kS42, kS43, kS51, kS52, kS53, List.getElem?_cons_zero, List.getElem?_cons_succ, List.set_cons_zero, List.set_cons_succ, List.length_cons, List.length_nil, List.drop_succ_cons, List.drop_zero, List.cons_append, List.nil_append, Option.toList_some, Option.toList_none, cz, ci2, true_and, and_true, and_self, true_or, or_true, nI_1, Nat.reduceAdd, Nat.reduceLT]
  refine cv1 rfl rfl (by first | exact rfl | exact trivial) (s_teams h.1) ?_
  refine ev_seg rfl ?_
  simp only [TE, sxs, sx, ldI, ldA, stI, stA, inc, gtF, ptF, ldX, stX, ldR, ldL, stL, dp1, dp2, Tm, kS0, kS1, kS2, kS3, kS4, kS5, kS6, kS7, kS8, kS9, kS10, kS11, kS12, kS13, kS14, kS15, kS16, kS17, kS18, kS19, kS20, kS21, kS22, kS23, kS24, kS25, kS26, kS27, kS28, kS30, kS31, kS32, kS33, kS34, kS35, kS36, kS37, kS38, kS39, kS40, kS41, kS42, kS43, kS51, kS52, kS53, List.getElem?_cons_zero, List.getElem?_cons_succ, List.set_cons_zero, List.set_cons_succ, List.length_cons, List.length_nil, List.drop_succ_cons, List.drop_zero, List.cons_append, List.nil_append, Option.toList_some, Option.toList_none, cz, ci2, true_and, and_true, and_self, true_or, or_true, nI_1, Nat.reduceAdd, Nat.reduceLT]
  refine cv1 rfl rfl (by first | exact rfl | exact trivial) (Ev_d (d' := d + 39) (s_Mteams (d := 0) h.2.1) (by omega)) ?_
  exact ck66 hn
/-- a wrapper that catches makes one exception: a call that returns after k1 of them -/
theorem cl_retk {sc : SC} {d y z nx : Nat} {L S as rest : List AV} {X X1 : XT} {o : OUT} {v : Option AV} {Z : XT} {k1 k : Nat} (h0 : clk z S = true) (h1 : (S.take (mNa z)).reverse = as) (h2 : S.drop (mNa z) = rest) (h3 : rcOk z as) (hc : Ev sc d z 0 (ent z as) [] X (.inl v) X1 k1) (hn : Ev sc (d + 1) y nx L (v.toList ++ rest) X1 o Z k) : Cl (Ev sc) (d + 1) y z nx L S X o Z (k1 + k) := by
  simp only [clk, Bool.and_eq_true, decide_eq_true_eq] at h0
  subst h1
  subst h2
  refine ⟨d, _, X1, k1, rfl, h0.1.1, h0.1.2, h0.2, h3, hc, ?_⟩
  rcases v with _ | v
  · exact ⟨k, hn, rfl⟩
  · exact ⟨k, hn, rfl⟩
/-- the number that a case reads -/
abbrev rd (sc : SC) (i : Int32) : Int32 := roV sc 53 i.toNatClampNeg
theorem cs70 (h : BI Y c bs nn lp lt) {i : Int32} (hv : vp_in (i + 1) sc.1) : CS sc d 70 Y i := by
  intro z5 z6
  by_cases ht : isT bs c (rd sc (i + 1))
  · obtain ⟨j, a, hj, ha, e⟩ := h.1.team ht
    refine ⟨th ((Y.1, (nI j).toInt64)) 0, 0, vI 0, vI (nI j), ⟨c, bs, nn, lp, lt, (h.snd _).th 0⟩, by omega, fun o Z k2 hn => ?_⟩
    rw [Nat.zero_add]
    refine ev_seg rfl ?_
    simp only [TE, sxs, sx, ldI, ldA, stI, stA, inc, gtF, ptF, ldX, stX, ldR, ldL, stL, dp1, dp2, Tm, kS0, kS1, kS2, kS3, kS4, kS5, kS6, kS7, kS8, kS9, kS10, kS11, kS12, kS13, kS14, kS15, kS16, kS17, kS18, kS19, kS20, kS21, kS22, kS23, kS24, kS25, kS26, kS27, kS28, kS30, kS31, kS32, kS33, kS34, kS35, kS36, kS37, kS38, kS39, kS40, kS41, kS42, kS43, kS51, kS52, kS53, List.getElem?_cons_zero, List.getElem?_cons_succ, List.set_cons_zero, List.set_cons_succ, List.length_cons, List.length_nil, List.drop_succ_cons, List.drop_zero, List.cons_append, List.nil_append, Option.toList_some, Option.toList_none, cz, ci2, true_and, and_true, and_self, true_or, or_true, nI_1, Nat.reduceAdd, Nat.reduceLT, show roV sc 53 (i + 1).toNatClampNeg = nI (bs j + a) from e, roN]
    refine ⟨⟨by decide, hv⟩, ?_⟩
    refine cv3 rfl rfl (by first | exact rfl | exact trivial) (Ev_d (d' := d + 39) (w_ok150 (d := 2) (s_groupOf (d := 0) h.1 hj ha)) (by omega)) ?_
    refine ev_seg rfl ?_
    simp only [TE, sxs, sx, ldI, ldA, stI, stA, inc, gtF, ptF, ldX, stX, ldR, ldL, stL, dp1, dp2, Tm, kS0, kS1, kS2, kS3, kS4, kS5, kS6, kS7, kS8, kS9, kS10, kS11, kS12, kS13, kS14, kS15, kS16, kS17, kS18, kS19, kS20, kS21, kS22, kS23, kS24, kS25, kS26, kS27, kS28, kS30, kS31, kS32, kS33, kS34, kS35, kS36, kS37, kS38, kS39, kS40, kS41, kS42, kS43, kS51, kS52, kS53, List.getElem?_cons_zero, List.getElem?_cons_succ, List.set_cons_zero, List.set_cons_succ, List.length_cons, List.length_nil, List.drop_succ_cons, List.drop_zero, List.cons_append, List.nil_append, Option.toList_some, Option.toList_none, cz, ci2, true_and, and_true, and_self, true_or, or_true, nI_1, Nat.reduceAdd, Nat.reduceLT, show roV sc 53 (i + 1).toNatClampNeg = nI (bs j + a) from e, roN]
    refine ⟨⟨by decide, hv⟩, ?_⟩
    refine cv2 rfl rfl (by first | exact rfl | exact trivial) (Ev_d (d' := d + 39) (s_MgroupOf (d := 0) (h.snd _).2.1 hj ha) (by omega)) ?_
    exact ck70 (th_16 _ _) (fun _ => rfl) hn
  · refine ⟨th Y 1, 1, vI 1, vI 0, ⟨c, bs, nn, lp, lt, h.th 1⟩, by omega, fun o Z k2 hn => ?_⟩
    refine ev_seg rfl ?_
    simp only [TE, sxs, sx, ldI, ldA, stI, stA, inc, gtF, ptF, ldX, stX, ldR, ldL, stL, dp1, dp2, Tm, kS0, kS1, kS2, kS3, kS4, kS5, kS6, kS7, kS8, kS9, kS10, kS11, kS12, kS13, kS14, kS15, kS16, kS17, kS18, kS19, kS20, kS21, kS22, kS23, kS24, kS25, kS26, kS27, kS28, kS30, kS31, kS32, kS33, kS34, kS35, kS36, kS37, kS38, kS39, kS40, kS41, kS42, kS43, kS51, kS52, kS53, List.getElem?_cons_zero, List.getElem?_cons_succ, List.set_cons_zero, List.set_cons_succ, List.length_cons, List.length_nil, List.drop_succ_cons, List.drop_zero, List.cons_append, List.nil_append, Option.toList_some, Option.toList_none, cz, ci2, true_and, and_true, and_self, true_or, or_true, nI_1, Nat.reduceAdd, Nat.reduceLT, roN]
    refine ⟨⟨by decide, hv⟩, ?_⟩
    refine cl_retk rfl rfl rfl (by first | exact rfl | exact trivial) (Ev_d (d' := d + 39) (w_th150_0 (d := 2) (s_groupOfX (d := 0) h.1 ht)) (by omega)) ?_
    refine ev_seg rfl ?_
    simp only [TE, sxs, sx, ldI, ldA, stI, stA, inc, gtF, ptF, ldX, stX, ldR, ldL, stL, dp1, dp2, Tm, kS0, kS1, kS2, kS3, kS4, kS5, kS6, kS7, kS8, kS9, kS10, kS11, kS12, kS13, kS14, kS15, kS16, kS17, kS18, kS19, kS20, kS21, kS22, kS23, kS24, kS25, kS26, kS27, kS28, kS30, kS31, kS32, kS33, kS34, kS35, kS36, kS37, kS38, kS39, kS40, kS41, kS42, kS43, kS51, kS52, kS53, List.getElem?_cons_zero, List.getElem?_cons_succ, List.set_cons_zero, List.set_cons_succ, List.length_cons, List.length_nil, List.drop_succ_cons, List.drop_zero, List.cons_append, List.nil_append, Option.toList_some, Option.toList_none, cz, ci2, true_and, and_true, and_self, true_or, or_true, nI_1, Nat.reduceAdd, Nat.reduceLT, roN]
    refine ⟨⟨by decide, hv⟩, ?_⟩
    refine cv2 rfl rfl (by first | exact rfl | exact trivial) (Ev_d (d' := d + 39) (s_MnoTeam (d := 0) (y := 118) h.2.1 ht (by decide)) (by omega)) ?_
    exact ck70 (th_16 _ _) (fun w => absurd w (by decide)) hn
end Cas
