/-! the reference: a group more -/
section Mad
variable {sc : SC} {d : Nat} {X : XT} {c lp lt : Nat} {bs nn : Nat → Nat}
theorem x33 (F : XF) (a v j : Int32) : xs F 33 0 0 a v 30 0 0 j = F 30 0 0 j := by unfold xs; simp
theorem x36 (F : XF) (a v j : Int32) : xs F 36 0 0 a v 30 0 0 j = F 30 0 0 j := by unfold xs; simp
theorem x31 (F : XF) (a v j : Int32) : xs F 31 0 0 a v 30 0 0 j = F 30 0 0 j := by unfold xs; simp
theorem x32 (F : XF) (a v j : Int32) : xs F 32 0 0 a v 30 0 0 j = F 30 0 0 j := by unfold xs; simp
def agM (F : XF) (B c : Nat) : Nat → XF
  | 0 => F
  | k + 1 => xs (xs (xs (agM F B c k) 33 0 0 (nI (B + k)) (nI c)) 36 0 0 (nI (B + k)) (nI (B + k))) 30 0 0 1 (nI (B + k + 1))
theorem agM_0 {F : XF} {B c : Nat} {j : Int32} (hj : j ≠ 1) : ∀ k, agM F B c k 30 0 0 j = F 30 0 0 j
  | 0 => rfl
  | k + 1 => by rw [agM, xs_nj _ _ _ _ _ hj, x36, x33, agM_0 hj k]
theorem agM_1 {F : XF} {B c : Nat} (h : F 30 0 0 1 = nI B) : ∀ k, agM F B c k 30 0 0 1 = nI (B + k)
  | 0 => h
  | k + 1 => by rw [agM, xs_self]; rfl
/-- the state of the reference with a group more -/
def addM (X : XT) (B c m : Nat) : XT := (xs (agM (xs (xs (th X 0).1 31 0 0 (nI c) (nI B)) 32 0 0 (nI c) (nI m)) B c m) 30 0 0 0 (nI (c + 1)), X.2)
theorem s_MaddGroup (h : MI X c bs nn lp lt) {m : Nat} (hm : 3 ≤ m ∧ m ≤ 5) (hc : c < 6) (hB : bs c ≤ 25) : Ev sc (d + 1) 98 0 (ent 98 [vR 30 0 0, vI (nI m)]) [] X (.inl (some (.inl (nI (bs c))))) (addM X (bs c) c m) 0 := by
  have vc : vp_in (nI c) 6 := vpn hc (by decide)
  have h1 := h.th 0
  have r0 := h1.1.1.2
  have r1 := h1.2.1.1
  generalize hF : xs (xs (th X 0).1 31 0 0 (nI c) (nI (bs c))) 32 0 0 (nI c) (nI m) = F
  have F0 : F 30 0 0 0 = nI c := by rw [← hF, x32, x31]; exact r0
  have F1 : F 30 0 0 1 = nI (bs c) := by rw [← hF, x32, x31]; exact r1
  have hres : addM X (bs c) c m = (xs (agM F (bs c) c m) 30 0 0 0 (nI (c + 1)), X.2) := by unfold addM; rw [hF]
  rw [hres]
  have loop : ∀ k, k ≤ m → Ev sc (d + 1) 98 8 [vR 30 0 0, vI (nI m), vI (nI k)] [] (agM F (bs c) c k, X.2) (.inl (some (.inl (nI (bs c))))) (xs (agM F (bs c) c m) 30 0 0 0 (nI (c + 1)), X.2) 0 := by
    apply loop_up
    · have g0 : agM F (bs c) c m 30 0 0 0 = nI c := by rw [agM_0 (by decide), F0]
      have g1 : xs (agM F (bs c) c m) 30 0 0 0 (nI (c + 1)) 30 0 0 1 = nI (bs c + m) := by rw [xs_nj _ _ _ _ _ (by decide), agM_1 F1]
      have e1 : nI (bs c + m) - nI m = nI (bs c) := by rw [Nat.add_comm, nI_sb]
      refine ev_seg rfl ?_
      simp only [TE, sxs, sx, ldI, ldA, stI, stA, inc, gtF, ptF, ldX, stX, ldR, ldL, stL, dp1, dp2, Tm, kS0, kS1, kS2, kS3, kS4, kS5, kS6, kS7, kS8, kS9, kS10, kS11, kS12, kS13, kS14, kS15, kS16, kS17, kS18, kS19, kS20, kS21, kS22, kS23, kS24, kS25, kS26, kS27, kS28, kS30, kS31, kS32, kS33, kS34, kS35, kS36, kS37, kS38, kS39, kS40, kS41, kS42, kS43, kS51, kS52, kS53, List.getElem?_cons_zero, List.getElem?_cons_succ, List.set_cons_zero, List.set_cons_succ, List.length_cons, List.length_nil, List.drop_succ_cons, List.drop_zero, List.cons_append, List.nil_append, Option.toList_some, Option.toList_none, cz, ci2, true_and, and_true, and_self, true_or, or_true, nI_1, Nat.reduceAdd, Nat.reduceLT]
      refine ⟨fun _ => ?_, fun w => absurd (nleI (Nat.le_refl _) (by omega)) w⟩
      refine ev_seg rfl ?_
      simp only [TE, sxs, sx, ldI, ldA, stI, stA, inc, gtF, ptF, ldX, stX, ldR, ldL, stL, dp1, dp2, Tm, kS0, kS1, kS2, kS3, kS4, kS5, kS6, kS7, kS8, kS9, kS10, kS11, kS12, kS13, kS14, kS15, kS16, kS17, kS18, kS19, kS20, kS21, kS22, kS23, kS24, kS25, kS26, kS27, kS28, kS30, kS31, kS32, kS33, kS34, kS35, kS36, kS37, kS38, kS39, kS40, kS41, kS42, kS43, kS51, kS52, kS53, List.getElem?_cons_zero, List.getElem?_cons_succ, List.set_cons_zero, List.set_cons_succ, List.length_cons, List.length_nil, List.drop_succ_cons, List.drop_zero, List.cons_append, List.nil_append, Option.toList_some, Option.toList_none, cz, ci2, true_and, and_true, and_self, true_or, or_true, nI_1, Nat.reduceAdd, Nat.reduceLT, g0, g1, e1]
    · intro k hk ih
      have g0 : agM F (bs c) c k 30 0 0 0 = nI c := by rw [agM_0 (by decide), F0]
      have g1 : agM F (bs c) c k 30 0 0 1 = nI (bs c + k) := agM_1 F1 k
      have v1 : vp_in (nI (bs c + k)) 30 := vpn (by omega) (by decide)
      rw [agM] at ih
      refine ev_seg rfl ?_
      simp only [TE, sxs, sx, ldI, ldA, stI, stA, inc, gtF, ptF, ldX, stX, ldR, ldL, stL, dp1, dp2, Tm, kS0, kS1, kS2, kS3, kS4, kS5, kS6, kS7, kS8, kS9, kS10, kS11, kS12, kS13, kS14, kS15, kS16, kS17, kS18, kS19, kS20, kS21, kS22, kS23, kS24, kS25, kS26, kS27, kS28, kS30, kS31, kS32, kS33, kS34, kS35, kS36, kS37, kS38, kS39, kS40, kS41, kS42, kS43, kS51, kS52, kS53, List.getElem?_cons_zero, List.getElem?_cons_succ, List.set_cons_zero, List.set_cons_succ, List.length_cons, List.length_nil, List.drop_succ_cons, List.drop_zero, List.cons_append, List.nil_append, Option.toList_some, Option.toList_none, cz, ci2, true_and, and_true, and_self, true_or, or_true, nI_1, Nat.reduceAdd, Nat.reduceLT]
      refine ⟨fun w => absurd w (nle hk (by omega)), fun _ => ?_⟩
      refine ev_seg rfl ?_
      simp only [TE, sxs, sx, ldI, ldA, stI, stA, inc, gtF, ptF, ldX, stX, ldR, ldL, stL, dp1, dp2, Tm, kS0, kS1, kS2, kS3, kS4, kS5, kS6, kS7, kS8, kS9, kS10, kS11, kS12, kS13, kS14, kS15, kS16, kS17, kS18, kS19, kS20, kS21, kS22, kS23, kS24, kS25, kS26, kS27, kS28, kS30, kS31, kS32, kS33, kS34, kS35, kS36, kS37, kS38, kS39, kS40, kS41, kS42, kS43, kS51, kS52, kS53, List.getElem?_cons_zero, List.getElem?_cons_succ, List.set_cons_zero, List.set_cons_succ, List.length_cons, List.length_nil, List.drop_succ_cons, List.drop_zero, List.cons_append, List.nil_append, Option.toList_some, Option.toList_none, cz, ci2, true_and, and_true, and_self, true_or, or_true, nI_1, Nat.reduceAdd, Nat.reduceLT, g0, g1, x33, x36]
      exact ⟨v1, ih⟩
  have g8 : ((3 : Int32) ≤ nI m ∧ nI m ≤ 5) := ⟨nleI (a := 3) hm.1 (by omega), nleI (b := 5) hm.2 (by omega)⟩
  have r0' : X.1 30 0 0 0 = nI c := h.1.1.2
  have rX : xs (th X 0).1 31 0 0 (nI c) (nI (bs c)) 30 0 0 0 = nI c := by rw [x31]; exact r0
  have l0 := loop 0 (Nat.zero_le _)
  rw [agM] at l0
  rw [en98]
  refine ev_seg rfl ?_
  simp only [TE, sxs, sx, ldI, ldA, stI, stA, inc, gtF, ptF, ldX, stX, ldR, ldL, stL, dp1, dp2, Tm, kS0, kS1, kS2, kS3, kS4, kS5, kS6, kS7, kS8, kS9, kS10, kS11, kS12, kS13, kS14, kS15, kS16, kS17, kS18, kS19, kS20, kS21, kS22, kS23, kS24, kS25, kS26, kS27, kS28, kS30, kS31, kS32, kS33, kS34, kS35, kS36, kS37, kS38, kS39, kS40, kS41, kS42, kS43, kS51, kS52, kS53, List.getElem?_cons_zero, List.getElem?_cons_succ, List.set_cons_zero, List.set_cons_succ, List.length_cons, List.length_nil, List.drop_succ_cons, List.drop_zero, List.cons_append, List.nil_append, Option.toList_some, Option.toList_none, cz, ci2, true_and, and_true, and_self, true_or, or_true, nI_1, Nat.reduceAdd, Nat.reduceLT]
  refine cv3 rfl rfl (by first | exact rfl | exact trivial) (s_Min) ?_
  rw [bI_t g8]
  refine ev_seg rfl ?_
  simp only [TE, sxs, sx, ldI, ldA, stI, stA, inc, gtF, ptF, ldX, stX, ldR, ldL, stL, dp1, dp2, Tm, kS0, kS1, kS2, kS3, kS4, kS5, kS6, kS7, kS8, kS9, kS10, kS11, kS12, kS13, kS14, kS15, kS16, kS17, kS18, kS19, kS20, kS21, kS22, kS23, kS24, kS25, kS26, kS27, kS28, kS30, kS31, kS32, kS33, kS34, kS35, kS36, kS37, kS38, kS39, kS40, kS41, kS42, kS43, kS51, kS52, kS53, List.getElem?_cons_zero, List.getElem?_cons_succ, List.set_cons_zero, List.set_cons_succ, List.length_cons, List.length_nil, List.drop_succ_cons, List.drop_zero, List.cons_append, List.nil_append, Option.toList_some, Option.toList_none, cz, ci2, true_and, and_true, and_self, true_or, or_true, nI_1, Nat.reduceAdd, Nat.reduceLT, r0']
  refine ⟨fun w => absurd w (nle (b := 6) hc (by decide)), fun _ => ?_⟩
  refine ev_seg rfl ?_
  simp only [TE, sxs, sx, ldI, ldA, stI, stA, inc, gtF, ptF, ldX, stX, ldR, ldL, stL, dp1, dp2, Tm, kS0, kS1, kS2, kS3, kS4, kS5, kS6, kS7, kS8, kS9, kS10, kS11, kS12, kS13, kS14, kS15, kS16, kS17, kS18, kS19, kS20, kS21, kS22, kS23, kS24, kS25, kS26, kS27, kS28, kS30, kS31, kS32, kS33, kS34, kS35, kS36, kS37, kS38, kS39, kS40, kS41, kS42, kS43, kS51, kS52, kS53, List.getElem?_cons_zero, List.getElem?_cons_succ, List.set_cons_zero, List.set_cons_succ, List.length_cons, List.length_nil, List.drop_succ_cons, List.drop_zero, List.cons_append, List.nil_append, Option.toList_some, Option.toList_none, cz, ci2, true_and, and_true, and_self, true_or, or_true, nI_1, Nat.reduceAdd, Nat.reduceLT]
  refine ev_seg rfl ?_
  simp only [TE, sxs, sx, ldI, ldA, stI, stA, inc, gtF, ptF, ldX, stX, ldR, ldL, stL, dp1, dp2, Tm, kS0, kS1, kS2, kS3, kS4, kS5, kS6, kS7, kS8, kS9, kS10, kS11, kS12, kS13, kS14, kS15, kS16, kS17, kS18, kS19, kS20, kS21, kS22, kS23, kS24, kS25, kS26, kS27, kS28, kS30, kS31, kS32, kS33, kS34, kS35, kS36, kS37, kS38, kS39, kS40, kS41, kS42, kS43, kS51, kS52, kS53, List.getElem?_cons_zero, List.getElem?_cons_succ, List.set_cons_zero, List.set_cons_succ, List.length_cons, List.length_nil, List.drop_succ_cons, List.drop_zero, List.cons_append, List.nil_append, Option.toList_some, Option.toList_none, cz, ci2, true_and, and_true, and_self, true_or, or_true, nI_1, Nat.reduceAdd, Nat.reduceLT]
  refine cv4 rfl rfl (by first | exact rfl | exact trivial) (goesT) ?_
  refine ev_seg rfl ?_
  simp only [TE, sxs, sx, ldI, ldA, stI, stA, inc, gtF, ptF, ldX, stX, ldR, ldL, stL, dp1, dp2, Tm, kS0, kS1, kS2, kS3, kS4, kS5, kS6, kS7, kS8, kS9, kS10, kS11, kS12, kS13, kS14, kS15, kS16, kS17, kS18, kS19, kS20, kS21, kS22, kS23, kS24, kS25, kS26, kS27, kS28, kS30, kS31, kS32, kS33, kS34, kS35, kS36, kS37, kS38, kS39, kS40, kS41, kS42, kS43, kS51, kS52, kS53, List.getElem?_cons_zero, List.getElem?_cons_succ, List.set_cons_zero, List.set_cons_succ, List.length_cons, List.length_nil, List.drop_succ_cons, List.drop_zero, List.cons_append, List.nil_append, Option.toList_some, Option.toList_none, cz, ci2, true_and, and_true, and_self, true_or, or_true, nI_1, Nat.reduceAdd, Nat.reduceLT]
  refine ⟨fun _ => ?_, fun w => absurd (by decide) w⟩
  refine ev_seg rfl ?_
  simp only [TE, sxs, sx, ldI, ldA, stI, stA, inc, gtF, ptF, ldX, stX, ldR, ldL, stL, dp1, dp2, Tm, kS0, kS1, kS2, kS3, kS4, kS5, kS6, kS7, kS8, kS9, kS10, kS11, kS12, kS13, kS14, kS15, kS16, kS17, kS18, kS19, kS20, kS21, kS22, kS23, kS24, kS25, kS26, kS27, kS28, kS30, kS31, kS32, kS33, kS34, kS35, kS36, kS37, kS38, kS39, kS40, kS41, kS42, kS43, kS51, kS52, kS53, List.getElem?_cons_zero, List.getElem?_cons_succ, List.set_cons_zero, List.set_cons_succ, List.length_cons, List.length_nil, List.drop_succ_cons, List.drop_zero, List.cons_append, List.nil_append, Option.toList_some, Option.toList_none, cz, ci2, true_and, and_true, and_self, true_or, or_true, nI_1, Nat.reduceAdd, Nat.reduceLT, r0, r1, rX]
  rw [hF]
  exact ⟨(by first | assumption | (and_intros <;> first | assumption | trivial | decide)), l0⟩
theorem s_MaddGroupX (h : MI X c bs nn lp lt) {v : Int32} : (¬ (3 ≤ v ∧ v ≤ 5) → Ev sc (d + 1) 98 0 (ent 98 [vR 30 0 0, vI v]) [] X (.inl (some (.inl 0))) (th X 1) 0) ∧ ((3 ≤ v ∧ v ≤ 5) → ¬ c < 6 → Ev sc (d + 1) 98 0 (ent 98 [vR 30 0 0, vI v]) [] X (.inl (some (.inl 0))) (th X 2) 0) := by
  have r0' : X.1 30 0 0 0 = nI c := h.1.1.2
  have hc6 := h.1.1.1
  constructor
  · intro hv
    have tl : ∀ y, Ev sc (d + 1) 98 4 [vR 30 0 0, vI v, av0] [vI y, vI 0, vR 30 0 0] X (.inl (some (.inl 0))) (th X 1) 0 := by
      intro y
      refine ev_seg rfl ?_
      simp only [TE, sxs, sx, ldI, ldA, stI, stA, inc, gtF, ptF, ldX, stX, ldR, ldL, stL, dp1, dp2, Tm, kS0, kS1, kS2, kS3, kS4, kS5, kS6, kS7, kS8, kS9, kS10, kS11, kS12, kS13, kS14, kS15, kS16, kS17, kS18, kS19, kS20, kS21, kS22, kS23, kS24, kS25, kS26, kS27, kS28, kS30, kS31, kS32, kS33, kS34, kS35, kS36, kS37, kS38, kS39, kS40, kS41, kS42, kS43, kS51, kS52, kS53, List.getElem?_cons_zero, List.getElem?_cons_succ, List.set_cons_zero, List.set_cons_succ, List.length_cons, List.length_nil, List.drop_succ_cons, List.drop_zero, List.cons_append, List.nil_append, Option.toList_some, Option.toList_none, cz, ci2, true_and, and_true, and_self, true_or, or_true, nI_1, Nat.reduceAdd, Nat.reduceLT]
      refine cv4 rfl rfl (by first | exact rfl | exact trivial) (goes1) ?_
      refine ev_seg rfl ?_
      simp only [TE, sxs, sx, ldI, ldA, stI, stA, inc, gtF, ptF, ldX, stX, ldR, ldL, stL, dp1, dp2, Tm, kS0, kS1, kS2, kS3, kS4, kS5, kS6, kS7, kS8, kS9, kS10, kS11, kS12, kS13, kS14, kS15, kS16, kS17, kS18, kS19, kS20, kS21, kS22, kS23, kS24, kS25, kS26, kS27, kS28, kS30, kS31, kS32, kS33, kS34, kS35, kS36, kS37, kS38, kS39, kS40, kS41, kS42, kS43, kS51, kS52, kS53, List.getElem?_cons_zero, List.getElem?_cons_succ, List.set_cons_zero, List.set_cons_succ, List.length_cons, List.length_nil, List.drop_succ_cons, List.drop_zero, List.cons_append, List.nil_append, Option.toList_some, Option.toList_none, cz, ci2, true_and, and_true, and_self, true_or, or_true, nI_1, Nat.reduceAdd, Nat.reduceLT]
      refine ⟨fun w => absurd trivial w, fun _ => ?_⟩
      refine ev_seg rfl ?_
      simp only [TE, sxs, sx, ldI, ldA, stI, stA, inc, gtF, ptF, ldX, stX, ldR, ldL, stL, dp1, dp2, Tm, kS0, kS1, kS2, kS3, kS4, kS5, kS6, kS7, kS8, kS9, kS10, kS11, kS12, kS13, kS14, kS15, kS16, kS17, kS18, kS19, kS20, kS21, kS22, kS23, kS24, kS25, kS26, kS27, kS28, kS30, kS31, kS32, kS33, kS34, kS35, kS36, kS37, kS38, kS39, kS40, kS41, kS42, kS43, kS51, kS52, kS53, List.getElem?_cons_zero, List.getElem?_cons_succ, List.set_cons_zero, List.set_cons_succ, List.length_cons, List.length_nil, List.drop_succ_cons, List.drop_zero, List.cons_append, List.nil_append, Option.toList_some, Option.toList_none, cz, ci2, true_and, and_true, and_self, true_or, or_true, nI_1, Nat.reduceAdd, Nat.reduceLT]
    rw [en98]
    refine ev_seg rfl ?_
    simp only [TE, sxs, sx, ldI, ldA, stI, stA, inc, gtF, ptF, ldX, stX, ldR, ldL, stL, dp1, dp2, Tm, kS0, kS1, kS2, kS3, kS4, kS5, kS6, kS7, kS8, kS9, kS10, kS11, kS12, kS13, kS14, kS15, kS16, kS17, kS18, kS19, kS20, kS21, kS22, kS23, kS24, kS25, kS26, kS27, kS28, kS30, kS31, kS32, kS33, kS34, kS35, kS36, kS37, kS38, kS39, kS40, kS41, kS42, kS43, kS51, kS52, kS53, List.getElem?_cons_zero, List.getElem?_cons_succ, List.set_cons_zero, List.set_cons_succ, List.length_cons, List.length_nil, List.drop_succ_cons, List.drop_zero, List.cons_append, List.nil_append, Option.toList_some, Option.toList_none, cz, ci2, true_and, and_true, and_self, true_or, or_true, nI_1, Nat.reduceAdd, Nat.reduceLT]
    refine cv3 rfl rfl (by first | exact rfl | exact trivial) (s_Min) ?_
    rw [bI_f hv]
    refine ev_seg rfl ?_
    simp only [TE, sxs, sx, ldI, ldA, stI, stA, inc, gtF, ptF, ldX, stX, ldR, ldL, stL, dp1, dp2, Tm, kS0, kS1, kS2, kS3, kS4, kS5, kS6, kS7, kS8, kS9, kS10, kS11, kS12, kS13, kS14, kS15, kS16, kS17, kS18, kS19, kS20, kS21, kS22, kS23, kS24, kS25, kS26, kS27, kS28, kS30, kS31, kS32, kS33, kS34, kS35, kS36, kS37, kS38, kS39, kS40, kS41, kS42, kS43, kS51, kS52, kS53, List.getElem?_cons_zero, List.getElem?_cons_succ, List.set_cons_zero, List.set_cons_succ, List.length_cons, List.length_nil, List.drop_succ_cons, List.drop_zero, List.cons_append, List.nil_append, Option.toList_some, Option.toList_none, cz, ci2, true_and, and_true, and_self, true_or, or_true, nI_1, Nat.reduceAdd, Nat.reduceLT, r0']
    refine ⟨fun _ => ?_, fun _ => ?_⟩
    · refine ev_seg rfl ?_
      simp only [TE, sxs, sx, ldI, ldA, stI, stA, inc, gtF, ptF, ldX, stX, ldR, ldL, stL, dp1, dp2, Tm, kS0, kS1, kS2, kS3, kS4, kS5, kS6, kS7, kS8, kS9, kS10, kS11, kS12, kS13, kS14, kS15, kS16, kS17, kS18, kS19, kS20, kS21, kS22, kS23, kS24, kS25, kS26, kS27, kS28, kS30, kS31, kS32, kS33, kS34, kS35, kS36, kS37, kS38, kS39, kS40, kS41, kS42, kS43, kS51, kS52, kS53, List.getElem?_cons_zero, List.getElem?_cons_succ, List.set_cons_zero, List.set_cons_succ, List.length_cons, List.length_nil, List.drop_succ_cons, List.drop_zero, List.cons_append, List.nil_append, Option.toList_some, Option.toList_none, cz, ci2, true_and, and_true, and_self, true_or, or_true, nI_1, Nat.reduceAdd, Nat.reduceLT]
      exact tl _
    · refine ev_seg rfl ?_
      simp only [TE, sxs, sx, ldI, ldA, stI, stA, inc, gtF, ptF, ldX, stX, ldR, ldL, stL, dp1, dp2, Tm, kS0, kS1, kS2, kS3, kS4, kS5, kS6, kS7, kS8, kS9, kS10, kS11, kS12, kS13, kS14, kS15, kS16, kS17, kS18, kS19, kS20, kS21, kS22, kS23, kS24, kS25, kS26, kS27, kS28, kS30, kS31, kS32, kS33, kS34, kS35, kS36, kS37, kS38, kS39, kS40, kS41, kS42, kS43, kS51, kS52, kS53, List.getElem?_cons_zero, List.getElem?_cons_succ, List.set_cons_zero, List.set_cons_succ, List.length_cons, List.length_nil, List.drop_succ_cons, List.drop_zero, List.cons_append, List.nil_append, Option.toList_some, Option.toList_none, cz, ci2, true_and, and_true, and_self, true_or, or_true, nI_1, Nat.reduceAdd, Nat.reduceLT]
      exact tl _
  · intro hv hc
    rw [en98]
    refine ev_seg rfl ?_
    simp only [TE, sxs, sx, ldI, ldA, stI, stA, inc, gtF, ptF, ldX, stX, ldR, ldL, stL, dp1, dp2, Tm, kS0, kS1, kS2, kS3, kS4, kS5, kS6, kS7, kS8, kS9, kS10, kS11, kS12, kS13, kS14, kS15, kS16, kS17, kS18, kS19, kS20, kS21, kS22, kS23, kS24, kS25, kS26, kS27, kS28, kS30, kS31, kS32, kS33, kS34, kS35, kS36, kS37, kS38, kS39, kS40, kS41, kS42, kS43, kS51, kS52, kS53, List.getElem?_cons_zero, List.getElem?_cons_succ, List.set_cons_zero, List.set_cons_succ, List.length_cons, List.length_nil, List.drop_succ_cons, List.drop_zero, List.cons_append, List.nil_append, Option.toList_some, Option.toList_none, cz, ci2, true_and, and_true, and_self, true_or, or_true, nI_1, Nat.reduceAdd, Nat.reduceLT]
    refine cv3 rfl rfl (by first | exact rfl | exact trivial) (s_Min) ?_
    rw [bI_t hv]
    refine ev_seg rfl ?_
    simp only [TE, sxs, sx, ldI, ldA, stI, stA, inc, gtF, ptF, ldX, stX, ldR, ldL, stL, dp1, dp2, Tm, kS0, kS1, kS2, kS3, kS4, kS5, kS6, kS7, kS8, kS9, kS10, kS11, kS12, kS13, kS14, kS15, kS16, kS17, kS18, kS19, kS20, kS21, kS22, kS23, kS24, kS25, kS26, kS27, kS28, kS30, kS31, kS32, kS33, kS34, kS35, kS36, kS37, kS38, kS39, kS40, kS41, kS42, kS43, kS51, kS52, kS53, List.getElem?_cons_zero, List.getElem?_cons_succ, List.set_cons_zero, List.set_cons_succ, List.length_cons, List.length_nil, List.drop_succ_cons, List.drop_zero, List.cons_append, List.nil_append, Option.toList_some, Option.toList_none, cz, ci2, true_and, and_true, and_self, true_or, or_true, nI_1, Nat.reduceAdd, Nat.reduceLT, r0']
    refine ⟨fun _ => ?_, fun w => absurd (nleI (a := 6) (by omega) (by omega)) w⟩
    refine ev_seg rfl ?_
    simp only [TE, sxs, sx, ldI, ldA, stI, stA, inc, gtF, ptF, ldX, stX, ldR, ldL, stL, dp1, dp2, Tm, kS0, kS1, kS2, kS3, kS4, kS5, kS6, kS7, kS8, kS9, kS10, kS11, kS12, kS13, kS14, kS15, kS16, kS17, kS18, kS19, kS20, kS21, kS22, kS23, kS24, kS25, kS26, kS27, kS28, kS30, kS31, kS32, kS33, kS34, kS35, kS36, kS37, kS38, kS39, kS40, kS41, kS42, kS43, kS51, kS52, kS53, List.getElem?_cons_zero, List.getElem?_cons_succ, List.set_cons_zero, List.set_cons_succ, List.length_cons, List.length_nil, List.drop_succ_cons, List.drop_zero, List.cons_append, List.nil_append, Option.toList_some, Option.toList_none, cz, ci2, true_and, and_true, and_self, true_or, or_true, nI_1, Nat.reduceAdd, Nat.reduceLT]
    refine ev_seg rfl ?_
    simp only [TE, sxs, sx, ldI, ldA, stI, stA, inc, gtF, ptF, ldX, stX, ldR, ldL, stL, dp1, dp2, Tm, kS0, kS1, kS2, kS3, kS4, kS5, kS6, kS7, kS8, kS9, kS10, kS11, kS12, kS13, kS14, kS15, kS16, kS17, kS18, kS19, kS20, kS21, kS22, kS23, kS24, kS25, kS26, kS27, kS28, kS30, kS31, kS32, kS33, kS34, kS35, kS36, kS37, kS38, kS39, kS40, kS41, kS42, kS43, kS51, kS52, kS53, List.getElem?_cons_zero, List.getElem?_cons_succ, List.set_cons_zero, List.set_cons_succ, List.length_cons, List.length_nil, List.drop_succ_cons, List.drop_zero, List.cons_append, List.nil_append, Option.toList_some, Option.toList_none, cz, ci2, true_and, and_true, and_self, true_or, or_true, nI_1, Nat.reduceAdd, Nat.reduceLT]
    refine cv4 rfl rfl (by first | exact rfl | exact trivial) (goes2) ?_
    refine ev_seg rfl ?_
    simp only [TE, sxs, sx, ldI, ldA, stI, stA, inc, gtF, ptF, ldX, stX, ldR, ldL, stL, dp1, dp2, Tm, kS0, kS1, kS2, kS3, kS4, kS5, kS6, kS7, kS8, kS9, kS10, kS11, kS12, kS13, kS14, kS15, kS16, kS17, kS18, kS19, kS20, kS21, kS22, kS23, kS24, kS25, kS26, kS27, kS28, kS30, kS31, kS32, kS33, kS34, kS35, kS36, kS37, kS38, kS39, kS40, kS41, kS42, kS43, kS51, kS52, kS53, List.getElem?_cons_zero, List.getElem?_cons_succ, List.set_cons_zero, List.set_cons_succ, List.length_cons, List.length_nil, List.drop_succ_cons, List.drop_zero, List.cons_append, List.nil_append, Option.toList_some, Option.toList_none, cz, ci2, true_and, and_true, and_self, true_or, or_true, nI_1, Nat.reduceAdd, Nat.reduceLT]
    refine ⟨fun w => absurd trivial w, fun _ => ?_⟩
    refine ev_seg rfl ?_
    simp only [TE, sxs, sx, ldI, ldA, stI, stA, inc, gtF, ptF, ldX, stX, ldR, ldL, stL, dp1, dp2, Tm, kS0, kS1, kS2, kS3, kS4, kS5, kS6, kS7, kS8, kS9, kS10, kS11, kS12, kS13, kS14, kS15, kS16, kS17, kS18, kS19, kS20, kS21, kS22, kS23, kS24, kS25, kS26, kS27, kS28, kS30, kS31, kS32, kS33, kS34, kS35, kS36, kS37, kS38, kS39, kS40, kS41, kS42, kS43, kS51, kS52, kS53, List.getElem?_cons_zero, List.getElem?_cons_succ, List.set_cons_zero, List.set_cons_succ, List.length_cons, List.length_nil, List.drop_succ_cons, List.drop_zero, List.cons_append, List.nil_append, Option.toList_some, Option.toList_none, cz, ci2, true_and, and_true, and_self, true_or, or_true, nI_1, Nat.reduceAdd, Nat.reduceLT]
end Mad
