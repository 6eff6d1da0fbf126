/-! rows of marks -/
def faux (f g : Nat → Int32) : Nat → Nat → Nat
  | 0, c => c
  | q + 1, c => if f c = g c then faux f g q (c + 1) else c
/-- the first place of m in which two rows differ, m if there is none -/
def fa (f g : Nat → Int32) (m : Nat) : Nat := faux f g m 0
def bet (f g : Nat → Int32) (m : Nat) : Prop := fa f g m < m ∧ g (fa f g m) < f (fa f g m)
theorem faux_le (f g : Nat → Int32) : ∀ q c, faux f g q c ≤ c + q
  | 0, c => Nat.le_refl _
  | q + 1, c => by
    unfold faux
    split
    · have := faux_le f g q (c + 1); omega
    · omega
theorem faux_ge (f g : Nat → Int32) : ∀ q c, c ≤ faux f g q c
  | 0, c => Nat.le_refl _
  | q + 1, c => by
    unfold faux
    split
    · have := faux_ge f g q (c + 1); omega
    · omega
theorem fa_le (f g : Nat → Int32) (m : Nat) : fa f g m ≤ m := by have := faux_le f g m 0; unfold fa; omega
def betD (f g : Nat → Int32) (m : Nat) : Decidable (bet f g m) := inferInstanceAs (Decidable (fa f g m < m ∧ g (fa f g m) < f (fa f g m)))
section Mks
variable {sc : SC} {d : Nat} {X : XT}
theorem s_put9 {r c v : Int32} (hr : vp_in r 5) (hc : vp_in c 4) : Ev sc d 28 0 (ent 28 [vR 9 0 0, vI r, vI c, vI v]) [] X (.inl none) (xs X.1 11 0 r c v, X.2) 0 := by
  rw [en28]
  refine ev_seg rfl ?_
  simp only [TE, sxs, sx, ldI, ldA, stI, stA, inc, gtF, ptF, ldX, stX, ldR, ldL, stL, dp1, dp2, Tm, kS0, kS1, kS2, kS3, kS4, kS5, kS6, kS7, kS8, kS9, kS10, kS11, kS12, kS13, kS14, kS15, kS16, kS17, kS18, kS19, kS20, kS21, kS22, kS23, kS24, kS25, kS26, kS27, kS28, kS30, kS31, kS32, kS33, kS34, kS35, kS36, kS37, kS38, kS39, kS40, kS41, kS42, kS43, kS51, kS52, kS53, List.getElem?_cons_zero, List.getElem?_cons_succ, List.set_cons_zero, List.set_cons_succ, List.length_cons, List.length_nil, List.drop_succ_cons, List.drop_zero, List.cons_append, List.nil_append, Option.toList_some, Option.toList_none, cz, ci2, true_and, and_true, and_self, true_or, or_true, nI_1, Nat.reduceAdd, Nat.reduceLT]
  exact (by first | assumption | (and_intros <;> first | assumption | trivial | decide))
theorem s_at9 {r c : Int32} (hr : vp_in r 5) (hc : vp_in c 4) : Ev sc d 29 0 (ent 29 [vR 9 0 0, vI r, vI c]) [] X (.inl (some (.inl (X.1 11 0 r c)))) X 0 := by
  rw [en29]
  refine ev_seg rfl ?_
  simp only [TE, sxs, sx, ldI, ldA, stI, stA, inc, gtF, ptF, ldX, stX, ldR, ldL, stL, dp1, dp2, Tm, kS0, kS1, kS2, kS3, kS4, kS5, kS6, kS7, kS8, kS9, kS10, kS11, kS12, kS13, kS14, kS15, kS16, kS17, kS18, kS19, kS20, kS21, kS22, kS23, kS24, kS25, kS26, kS27, kS28, kS30, kS31, kS32, kS33, kS34, kS35, kS36, kS37, kS38, kS39, kS40, kS41, kS42, kS43, kS51, kS52, kS53, List.getElem?_cons_zero, List.getElem?_cons_succ, List.set_cons_zero, List.set_cons_succ, List.length_cons, List.length_nil, List.drop_succ_cons, List.drop_zero, List.cons_append, List.nil_append, Option.toList_some, Option.toList_none, cz, ci2, true_and, and_true, and_self, true_or, or_true, nI_1, Nat.reduceAdd, Nat.reduceLT]
  exact (by first | assumption | (and_intros <;> first | assumption | trivial | decide))
theorem s_firstApart9 {r s : Int32} {m : Nat} (hr : vp_in r 5) (hs : vp_in s 5) (hm : m ≤ 4) : Ev sc d 30 0 (ent 30 [vR 9 0 0, vI r, vI s, vI (nI m)]) [] X (.inl (some (.inl (nI (fa (fun c => X.1 11 0 r (nI c)) (fun c => X.1 11 0 s (nI c)) m))))) X 0 := by
  rw [en30]
  refine ev_seg rfl ?_
  simp only [TE, sxs, sx, ldI, ldA, stI, stA, inc, gtF, ptF, ldX, stX, ldR, ldL, stL, dp1, dp2, Tm, kS0, kS1, kS2, kS3, kS4, kS5, kS6, kS7, kS8, kS9, kS10, kS11, kS12, kS13, kS14, kS15, kS16, kS17, kS18, kS19, kS20, kS21, kS22, kS23, kS24, kS25, kS26, kS27, kS28, kS30, kS31, kS32, kS33, kS34, kS35, kS36, kS37, kS38, kS39, kS40, kS41, kS42, kS43, kS51, kS52, kS53, List.getElem?_cons_zero, List.getElem?_cons_succ, List.set_cons_zero, List.set_cons_succ, List.length_cons, List.length_nil, List.drop_succ_cons, List.drop_zero, List.cons_append, List.nil_append, Option.toList_some, Option.toList_none, cz, ci2, true_and, and_true, and_self, true_or, or_true, nI_1, Nat.reduceAdd, Nat.reduceLT]
  have loop : ∀ q c, c + q = m → Ev sc d 30 1 [vR 9 0 0, vI r, vI s, vI (nI m), vI (nI c)] [] X (.inl (some (.inl (nI (faux (fun c => X.1 11 0 r (nI c)) (fun c => X.1 11 0 s (nI c)) q c))))) X 0 := by
    intro q
    induction q with
    | zero =>
      intro c hc
      refine ev_seg rfl ?_
      simp only [TE, sxs, sx, ldI, ldA, stI, stA, inc, gtF, ptF, ldX, stX, ldR, ldL, stL, dp1, dp2, Tm, kS0, kS1, kS2, kS3, kS4, kS5, kS6, kS7, kS8, kS9, kS10, kS11, kS12, kS13, kS14, kS15, kS16, kS17, kS18, kS19, kS20, kS21, kS22, kS23, kS24, kS25, kS26, kS27, kS28, kS30, kS31, kS32, kS33, kS34, kS35, kS36, kS37, kS38, kS39, kS40, kS41, kS42, kS43, kS51, kS52, kS53, List.getElem?_cons_zero, List.getElem?_cons_succ, List.set_cons_zero, List.set_cons_succ, List.length_cons, List.length_nil, List.drop_succ_cons, List.drop_zero, List.cons_append, List.nil_append, Option.toList_some, Option.toList_none, cz, ci2, true_and, and_true, and_self, true_or, or_true, nI_1, Nat.reduceAdd, Nat.reduceLT]
      refine ⟨fun _ => ?_, fun h => absurd (nleI (by omega) (by omega)) h⟩
      refine ev_seg rfl ?_
      simp only [TE, sxs, sx, ldI, ldA, stI, stA, inc, gtF, ptF, ldX, stX, ldR, ldL, stL, dp1, dp2, Tm, kS0, kS1, kS2, kS3, kS4, kS5, kS6, kS7, kS8, kS9, kS10, kS11, kS12, kS13, kS14, kS15, kS16, kS17, kS18, kS19, kS20, kS21, kS22, kS23, kS24, kS25, kS26, kS27, kS28, kS30, kS31, kS32, kS33, kS34, kS35, kS36, kS37, kS38, kS39, kS40, kS41, kS42, kS43, kS51, kS52, kS53, List.getElem?_cons_zero, List.getElem?_cons_succ, List.set_cons_zero, List.set_cons_succ, List.length_cons, List.length_nil, List.drop_succ_cons, List.drop_zero, List.cons_append, List.nil_append, Option.toList_some, Option.toList_none, cz, ci2, true_and, and_true, and_self, true_or, or_true, nI_1, Nat.reduceAdd, Nat.reduceLT]
      rfl
    | succ q ih =>
      intro c hc
      have hc4 : vp_in (nI c) 4 := vpn (by omega) (by decide)
      have ih := ih (c + 1) (by omega)
      refine ev_seg rfl ?_
      simp only [TE, sxs, sx, ldI, ldA, stI, stA, inc, gtF, ptF, ldX, stX, ldR, ldL, stL, dp1, dp2, Tm, kS0, kS1, kS2, kS3, kS4, kS5, kS6, kS7, kS8, kS9, kS10, kS11, kS12, kS13, kS14, kS15, kS16, kS17, kS18, kS19, kS20, kS21, kS22, kS23, kS24, kS25, kS26, kS27, kS28, kS30, kS31, kS32, kS33, kS34, kS35, kS36, kS37, kS38, kS39, kS40, kS41, kS42, kS43, kS51, kS52, kS53, List.getElem?_cons_zero, List.getElem?_cons_succ, List.set_cons_zero, List.set_cons_succ, List.length_cons, List.length_nil, List.drop_succ_cons, List.drop_zero, List.cons_append, List.nil_append, Option.toList_some, Option.toList_none, cz, ci2, true_and, and_true, and_self, true_or, or_true, nI_1, Nat.reduceAdd, Nat.reduceLT]
      refine ⟨fun h => absurd h (nle (by omega) (by omega)), fun _ => ?_⟩
      refine ev_seg rfl ?_
      simp only [TE, sxs, sx, ldI, ldA, stI, stA, inc, gtF, ptF, ldX, stX, ldR, ldL, stL, dp1, dp2, Tm, kS0, kS1, kS2, kS3, kS4, kS5, kS6, kS7, kS8, kS9, kS10, kS11, kS12, kS13, kS14, kS15, kS16, kS17, kS18, kS19, kS20, kS21, kS22, kS23, kS24, kS25, kS26, kS27, kS28, kS30, kS31, kS32, kS33, kS34, kS35, kS36, kS37, kS38, kS39, kS40, kS41, kS42, kS43, kS51, kS52, kS53, List.getElem?_cons_zero, List.getElem?_cons_succ, List.set_cons_zero, List.set_cons_succ, List.length_cons, List.length_nil, List.drop_succ_cons, List.drop_zero, List.cons_append, List.nil_append, Option.toList_some, Option.toList_none, cz, ci2, true_and, and_true, and_self, true_or, or_true, nI_1, Nat.reduceAdd, Nat.reduceLT]
      refine ⟨(by first | assumption | (and_intros <;> first | assumption | trivial | decide)), fun h => ?_, fun h => ?_⟩
      · rw [show faux (fun c => X.1 11 0 r (nI c)) (fun c => X.1 11 0 s (nI c)) (q + 1) c = c from if_neg h]
        refine ev_seg rfl ?_
        simp only [TE, sxs, sx, ldI, ldA, stI, stA, inc, gtF, ptF, ldX, stX, ldR, ldL, stL, dp1, dp2, Tm, kS0, kS1, kS2, kS3, kS4, kS5, kS6, kS7, kS8, kS9, kS10, kS11, kS12, kS13, kS14, kS15, kS16, kS17, kS18, kS19, kS20, kS21, kS22, kS23, kS24, kS25, kS26, kS27, kS28, kS30, kS31, kS32, kS33, kS34, kS35, kS36, kS37, kS38, kS39, kS40, kS41, kS42, kS43, kS51, kS52, kS53, List.getElem?_cons_zero, List.getElem?_cons_succ, List.set_cons_zero, List.set_cons_succ, List.length_cons, List.length_nil, List.drop_succ_cons, List.drop_zero, List.cons_append, List.nil_append, Option.toList_some, Option.toList_none, cz, ci2, true_and, and_true, and_self, true_or, or_true, nI_1, Nat.reduceAdd, Nat.reduceLT]
      · rw [show faux (fun c => X.1 11 0 r (nI c)) (fun c => X.1 11 0 s (nI c)) (q + 1) c = faux (fun c => X.1 11 0 r (nI c)) (fun c => X.1 11 0 s (nI c)) q (c + 1) from if_pos (Classical.not_not.mp h)]
        refine ev_seg rfl ?_
        simp only [TE, sxs, sx, ldI, ldA, stI, stA, inc, gtF, ptF, ldX, stX, ldR, ldL, stL, dp1, dp2, Tm, kS0, kS1, kS2, kS3, kS4, kS5, kS6, kS7, kS8, kS9, kS10, kS11, kS12, kS13, kS14, kS15, kS16, kS17, kS18, kS19, kS20, kS21, kS22, kS23, kS24, kS25, kS26, kS27, kS28, kS30, kS31, kS32, kS33, kS34, kS35, kS36, kS37, kS38, kS39, kS40, kS41, kS42, kS43, kS51, kS52, kS53, List.getElem?_cons_zero, List.getElem?_cons_succ, List.set_cons_zero, List.set_cons_succ, List.length_cons, List.length_nil, List.drop_succ_cons, List.drop_zero, List.cons_append, List.nil_append, Option.toList_some, Option.toList_none, cz, ci2, true_and, and_true, and_self, true_or, or_true, nI_1, Nat.reduceAdd, Nat.reduceLT]
        exact ih
  exact loop m 0 (by omega)
theorem s_isBetter9 {r s : Int32} {m : Nat} (hr : vp_in r 5) (hs : vp_in s 5) (hm : m ≤ 4) [Decidable (bet (fun c => X.1 11 0 r (nI c)) (fun c => X.1 11 0 s (nI c)) m)] : Ev sc (d + 1) 31 0 (ent 31 [vR 9 0 0, vI r, vI s, vI (nI m)]) [] X (.inl (some (.inl (bI (bet (fun c => X.1 11 0 r (nI c)) (fun c => X.1 11 0 s (nI c)) m))))) X 0 := by
  rw [en31]
  refine ev_seg rfl ?_
  simp only [TE, sxs, sx, ldI, ldA, stI, stA, inc, gtF, ptF, ldX, stX, ldR, ldL, stL, dp1, dp2, Tm, kS0, kS1, kS2, kS3, kS4, kS5, kS6, kS7, kS8, kS9, kS10, kS11, kS12, kS13, kS14, kS15, kS16, kS17, kS18, kS19, kS20, kS21, kS22, kS23, kS24, kS25, kS26, kS27, kS28, kS30, kS31, kS32, kS33, kS34, kS35, kS36, kS37, kS38, kS39, kS40, kS41, kS42, kS43, kS51, kS52, kS53, List.getElem?_cons_zero, List.getElem?_cons_succ, List.set_cons_zero, List.set_cons_succ, List.length_cons, List.length_nil, List.drop_succ_cons, List.drop_zero, List.cons_append, List.nil_append, Option.toList_some, Option.toList_none, cz, ci2, true_and, and_true, and_self, true_or, or_true, nI_1, Nat.reduceAdd, Nat.reduceLT]
  refine cv4 rfl rfl (by first | exact rfl | exact trivial) (s_firstApart9 hr hs hm) ?_
  have hle := fa_le (fun c => X.1 11 0 r (nI c)) (fun c => X.1 11 0 s (nI c)) m
  refine ev_seg rfl ?_
  simp only [TE, sxs, sx, ldI, ldA, stI, stA, inc, gtF, ptF, ldX, stX, ldR, ldL, stL, dp1, dp2, Tm, kS0, kS1, kS2, kS3, kS4, kS5, kS6, kS7, kS8, kS9, kS10, kS11, kS12, kS13, kS14, kS15, kS16, kS17, kS18, kS19, kS20, kS21, kS22, kS23, kS24, kS25, kS26, kS27, kS28, kS30, kS31, kS32, kS33, kS34, kS35, kS36, kS37, kS38, kS39, kS40, kS41, kS42, kS43, kS51, kS52, kS53, List.getElem?_cons_zero, List.getElem?_cons_succ, List.set_cons_zero, List.set_cons_succ, List.length_cons, List.length_nil, List.drop_succ_cons, List.drop_zero, List.cons_append, List.nil_append, Option.toList_some, Option.toList_none, cz, ci2, true_and, and_true, and_self, true_or, or_true, nI_1, Nat.reduceAdd, Nat.reduceLT]
  refine ⟨fun h => ?_, fun h => ?_⟩
  · rw [bI_f (fun q => nle q.1 (by omega) h)]
    refine ev_seg rfl ?_
    simp only [TE, sxs, sx, ldI, ldA, stI, stA, inc, gtF, ptF, ldX, stX, ldR, ldL, stL, dp1, dp2, Tm, kS0, kS1, kS2, kS3, kS4, kS5, kS6, kS7, kS8, kS9, kS10, kS11, kS12, kS13, kS14, kS15, kS16, kS17, kS18, kS19, kS20, kS21, kS22, kS23, kS24, kS25, kS26, kS27, kS28, kS30, kS31, kS32, kS33, kS34, kS35, kS36, kS37, kS38, kS39, kS40, kS41, kS42, kS43, kS51, kS52, kS53, List.getElem?_cons_zero, List.getElem?_cons_succ, List.set_cons_zero, List.set_cons_succ, List.length_cons, List.length_nil, List.drop_succ_cons, List.drop_zero, List.cons_append, List.nil_append, Option.toList_some, Option.toList_none, cz, ci2, true_and, and_true, and_self, true_or, or_true, nI_1, Nat.reduceAdd, Nat.reduceLT]
    refine ev_seg rfl ?_
    simp only [TE, sxs, sx, ldI, ldA, stI, stA, inc, gtF, ptF, ldX, stX, ldR, ldL, stL, dp1, dp2, Tm, kS0, kS1, kS2, kS3, kS4, kS5, kS6, kS7, kS8, kS9, kS10, kS11, kS12, kS13, kS14, kS15, kS16, kS17, kS18, kS19, kS20, kS21, kS22, kS23, kS24, kS25, kS26, kS27, kS28, kS30, kS31, kS32, kS33, kS34, kS35, kS36, kS37, kS38, kS39, kS40, kS41, kS42, kS43, kS51, kS52, kS53, List.getElem?_cons_zero, List.getElem?_cons_succ, List.set_cons_zero, List.set_cons_succ, List.length_cons, List.length_nil, List.drop_succ_cons, List.drop_zero, List.cons_append, List.nil_append, Option.toList_some, Option.toList_none, cz, ci2, true_and, and_true, and_self, true_or, or_true, nI_1, Nat.reduceAdd, Nat.reduceLT]
  · have hlt : fa (fun c => X.1 11 0 r (nI c)) (fun c => X.1 11 0 s (nI c)) m < m := by
      rcases Nat.lt_or_ge (fa (fun c => X.1 11 0 r (nI c)) (fun c => X.1 11 0 s (nI c)) m) m with q | q
      · exact q
      · exact absurd (nleI q (by omega)) h
    have hc4 : vp_in (nI (fa (fun c => X.1 11 0 r (nI c)) (fun c => X.1 11 0 s (nI c)) m)) 4 := vpn (by omega) (by decide)
    refine ev_seg rfl ?_
    simp only [TE, sxs, sx, ldI, ldA, stI, stA, inc, gtF, ptF, ldX, stX, ldR, ldL, stL, dp1, dp2, Tm, kS0, kS1, kS2, kS3, kS4, kS5, kS6, kS7, kS8, kS9, kS10, kS11, kS12, kS13, kS14, kS15, kS16, kS17, kS18, kS19, kS20, kS21, kS22, kS23, kS24, kS25, kS26, kS27, kS28, kS30, kS31, kS32, kS33, kS34, kS35, kS36, kS37, kS38, kS39, kS40, kS41, kS42, kS43, kS51, kS52, kS53, List.getElem?_cons_zero, List.getElem?_cons_succ, List.set_cons_zero, List.set_cons_succ, List.length_cons, List.length_nil, List.drop_succ_cons, List.drop_zero, List.cons_append, List.nil_append, Option.toList_some, Option.toList_none, cz, ci2, true_and, and_true, and_self, true_or, or_true, nI_1, Nat.reduceAdd, Nat.reduceLT]
    refine ⟨(by first | assumption | (and_intros <;> first | assumption | trivial | decide)), fun h2 => ?_, fun h2 => ?_⟩
    · rw [bI_f (fun q => i_nlt h2 q.2)]
      refine ev_seg rfl ?_
      simp only [TE, sxs, sx, ldI, ldA, stI, stA, inc, gtF, ptF, ldX, stX, ldR, ldL, stL, dp1, dp2, Tm, kS0, kS1, kS2, kS3, kS4, kS5, kS6, kS7, kS8, kS9, kS10, kS11, kS12, kS13, kS14, kS15, kS16, kS17, kS18, kS19, kS20, kS21, kS22, kS23, kS24, kS25, kS26, kS27, kS28, kS30, kS31, kS32, kS33, kS34, kS35, kS36, kS37, kS38, kS39, kS40, kS41, kS42, kS43, kS51, kS52, kS53, List.getElem?_cons_zero, List.getElem?_cons_succ, List.set_cons_zero, List.set_cons_succ, List.length_cons, List.length_nil, List.drop_succ_cons, List.drop_zero, List.cons_append, List.nil_append, Option.toList_some, Option.toList_none, cz, ci2, true_and, and_true, and_self, true_or, or_true, nI_1, Nat.reduceAdd, Nat.reduceLT]
      refine ev_seg rfl ?_
      simp only [TE, sxs, sx, ldI, ldA, stI, stA, inc, gtF, ptF, ldX, stX, ldR, ldL, stL, dp1, dp2, Tm, kS0, kS1, kS2, kS3, kS4, kS5, kS6, kS7, kS8, kS9, kS10, kS11, kS12, kS13, kS14, kS15, kS16, kS17, kS18, kS19, kS20, kS21, kS22, kS23, kS24, kS25, kS26, kS27, kS28, kS30, kS31, kS32, kS33, kS34, kS35, kS36, kS37, kS38, kS39, kS40, kS41, kS42, kS43, kS51, kS52, kS53, List.getElem?_cons_zero, List.getElem?_cons_succ, List.set_cons_zero, List.set_cons_succ, List.length_cons, List.length_nil, List.drop_succ_cons, List.drop_zero, List.cons_append, List.nil_append, Option.toList_some, Option.toList_none, cz, ci2, true_and, and_true, and_self, true_or, or_true, nI_1, Nat.reduceAdd, Nat.reduceLT]
    · rw [bI_t ⟨hlt, i_lt h2⟩]
      refine ev_seg rfl ?_
      simp only [TE, sxs, sx, ldI, ldA, stI, stA, inc, gtF, ptF, ldX, stX, ldR, ldL, stL, dp1, dp2, Tm, kS0, kS1, kS2, kS3, kS4, kS5, kS6, kS7, kS8, kS9, kS10, kS11, kS12, kS13, kS14, kS15, kS16, kS17, kS18, kS19, kS20, kS21, kS22, kS23, kS24, kS25, kS26, kS27, kS28, kS30, kS31, kS32, kS33, kS34, kS35, kS36, kS37, kS38, kS39, kS40, kS41, kS42, kS43, kS51, kS52, kS53, List.getElem?_cons_zero, List.getElem?_cons_succ, List.set_cons_zero, List.set_cons_succ, List.length_cons, List.length_nil, List.drop_succ_cons, List.drop_zero, List.cons_append, List.nil_append, Option.toList_some, Option.toList_none, cz, ci2, true_and, and_true, and_self, true_or, or_true, nI_1, Nat.reduceAdd, Nat.reduceLT]
      refine ev_seg rfl ?_
      simp only [TE, sxs, sx, ldI, ldA, stI, stA, inc, gtF, ptF, ldX, stX, ldR, ldL, stL, dp1, dp2, Tm, kS0, kS1, kS2, kS3, kS4, kS5, kS6, kS7, kS8, kS9, kS10, kS11, kS12, kS13, kS14, kS15, kS16, kS17, kS18, kS19, kS20, kS21, kS22, kS23, kS24, kS25, kS26, kS27, kS28, kS30, kS31, kS32, kS33, kS34, kS35, kS36, kS37, kS38, kS39, kS40, kS41, kS42, kS43, kS51, kS52, kS53, List.getElem?_cons_zero, List.getElem?_cons_succ, List.set_cons_zero, List.set_cons_succ, List.length_cons, List.length_nil, List.drop_succ_cons, List.drop_zero, List.cons_append, List.nil_append, Option.toList_some, Option.toList_none, cz, ci2, true_and, and_true, and_self, true_or, or_true, nI_1, Nat.reduceAdd, Nat.reduceLT]
theorem s_put16 {r c v : Int32} (hr : vp_in r 6) (hc : vp_in c 5) : Ev sc d 28 0 (ent 28 [vR 16 0 0, vI r, vI c, vI v]) [] X (.inl none) (xs X.1 18 0 r c v, X.2) 0 := by
  rw [en28]
  refine ev_seg rfl ?_
  simp only [TE, sxs, sx, ldI, ldA, stI, stA, inc, gtF, ptF, ldX, stX, ldR, ldL, stL, dp1, dp2, Tm, kS0, kS1, kS2, kS3, kS4, kS5, kS6, kS7, kS8, kS9, kS10, kS11, kS12, kS13, kS14, kS15, kS16, kS17, kS18, kS19, kS20, kS21, kS22, kS23, kS24, kS25, kS26, kS27, kS28, kS30, kS31, kS32, kS33, kS34, kS35, kS36, kS37, kS38, kS39, kS40, kS41, kS42, kS43, kS51, kS52, kS53, List.getElem?_cons_zero, List.getElem?_cons_succ, List.set_cons_zero, List.set_cons_succ, List.length_cons, List.length_nil, List.drop_succ_cons, List.drop_zero, List.cons_append, List.nil_append, Option.toList_some, Option.toList_none, cz, ci2, true_and, and_true, and_self, true_or, or_true, nI_1, Nat.reduceAdd, Nat.reduceLT]
  exact (by first | assumption | (and_intros <;> first | assumption | trivial | decide))
theorem s_at16 {r c : Int32} (hr : vp_in r 6) (hc : vp_in c 5) : Ev sc d 29 0 (ent 29 [vR 16 0 0, vI r, vI c]) [] X (.inl (some (.inl (X.1 18 0 r c)))) X 0 := by
  rw [en29]
  refine ev_seg rfl ?_
  simp only [TE, sxs, sx, ldI, ldA, stI, stA, inc, gtF, ptF, ldX, stX, ldR, ldL, stL, dp1, dp2, Tm, kS0, kS1, kS2, kS3, kS4, kS5, kS6, kS7, kS8, kS9, kS10, kS11, kS12, kS13, kS14, kS15, kS16, kS17, kS18, kS19, kS20, kS21, kS22, kS23, kS24, kS25, kS26, kS27, kS28, kS30, kS31, kS32, kS33, kS34, kS35, kS36, kS37, kS38, kS39, kS40, kS41, kS42, kS43, kS51, kS52, kS53, List.getElem?_cons_zero, List.getElem?_cons_succ, List.set_cons_zero, List.set_cons_succ, List.length_cons, List.length_nil, List.drop_succ_cons, List.drop_zero, List.cons_append, List.nil_append, Option.toList_some, Option.toList_none, cz, ci2, true_and, and_true, and_self, true_or, or_true, nI_1, Nat.reduceAdd, Nat.reduceLT]
  exact (by first | assumption | (and_intros <;> first | assumption | trivial | decide))
theorem s_firstApart16 {r s : Int32} {m : Nat} (hr : vp_in r 6) (hs : vp_in s 6) (hm : m ≤ 5) : Ev sc d 30 0 (ent 30 [vR 16 0 0, vI r, vI s, vI (nI m)]) [] X (.inl (some (.inl (nI (fa (fun c => X.1 18 0 r (nI c)) (fun c => X.1 18 0 s (nI c)) m))))) X 0 := by
  rw [en30]
  refine ev_seg rfl ?_
  simp only [TE, sxs, sx, ldI, ldA, stI, stA, inc, gtF, ptF, ldX, stX, ldR, ldL, stL, dp1, dp2, Tm, kS0, kS1, kS2, kS3, kS4, kS5, kS6, kS7, kS8, kS9, kS10, kS11, kS12, kS13, kS14, kS15, kS16, kS17, kS18, kS19, kS20, kS21, kS22, kS23, kS24, kS25, kS26, kS27, kS28, kS30, kS31, kS32, kS33, kS34, kS35, kS36, kS37, kS38, kS39, kS40, kS41, kS42, kS43, kS51, kS52, kS53, List.getElem?_cons_zero, List.getElem?_cons_succ, List.set_cons_zero, List.set_cons_succ, List.length_cons, List.length_nil, List.drop_succ_cons, List.drop_zero, List.cons_append, List.nil_append, Option.toList_some, Option.toList_none, cz, ci2, true_and, and_true, and_self, true_or, or_true, nI_1, Nat.reduceAdd, Nat.reduceLT]
  have loop : ∀ q c, c + q = m → Ev sc d 30 1 [vR 16 0 0, vI r, vI s, vI (nI m), vI (nI c)] [] X (.inl (some (.inl (nI (faux (fun c => X.1 18 0 r (nI c)) (fun c => X.1 18 0 s (nI c)) q c))))) X 0 := by
    intro q
    induction q with
    | zero =>
      intro c hc
      refine ev_seg rfl ?_
      simp only [TE, sxs, sx, ldI, ldA, stI, stA, inc, gtF, ptF, ldX, stX, ldR, ldL, stL, dp1, dp2, Tm, kS0, kS1, kS2, kS3, kS4, kS5, kS6, kS7, kS8, kS9, kS10, kS11, kS12, kS13, kS14, kS15, kS16, kS17, kS18, kS19, kS20, kS21, kS22, kS23, kS24, kS25, kS26, kS27, kS28, kS30, kS31, kS32, kS33, kS34, kS35, kS36, kS37, kS38, kS39, kS40, kS41, kS42, kS43, kS51, kS52, kS53, List.getElem?_cons_zero, List.getElem?_cons_succ, List.set_cons_zero, List.set_cons_succ, List.length_cons, List.length_nil, List.drop_succ_cons, List.drop_zero, List.cons_append, List.nil_append, Option.toList_some, Option.toList_none, cz, ci2, true_and, and_true, and_self, true_or, or_true, nI_1, Nat.reduceAdd, Nat.reduceLT]
      refine ⟨fun _ => ?_, fun h => absurd (nleI (by omega) (by omega)) h⟩
      refine ev_seg rfl ?_
      simp only [TE, sxs, sx, ldI, ldA, stI, stA, inc, gtF, ptF, ldX, stX, ldR, ldL, stL, dp1, dp2, Tm, kS0, kS1, kS2, kS3, kS4, kS5, kS6, kS7, kS8, kS9, kS10, kS11, kS12, kS13, kS14, kS15, kS16, kS17, kS18, kS19, kS20, kS21, kS22, kS23, kS24, kS25, kS26, kS27, kS28, kS30, kS31, kS32, kS33, kS34, kS35, kS36, kS37, kS38, kS39, kS40, kS41, kS42, kS43, kS51, kS52, kS53, List.getElem?_cons_zero, List.getElem?_cons_succ, List.set_cons_zero, List.set_cons_succ, List.length_cons, List.length_nil, List.drop_succ_cons, List.drop_zero, List.cons_append, List.nil_append, Option.toList_some, Option.toList_none, cz, ci2, true_and, and_true, and_self, true_or, or_true, nI_1, Nat.reduceAdd, Nat.reduceLT]
      rfl
    | succ q ih =>
      intro c hc
      have hc4 : vp_in (nI c) 5 := vpn (by omega) (by decide)
      have ih := ih (c + 1) (by omega)
      refine ev_seg rfl ?_
      simp only [TE, sxs, sx, ldI, ldA, stI, stA, inc, gtF, ptF, ldX, stX, ldR, ldL, stL, dp1, dp2, Tm, kS0, kS1, kS2, kS3, kS4, kS5, kS6, kS7, kS8, kS9, kS10, kS11, kS12, kS13, kS14, kS15, kS16, kS17, kS18, kS19, kS20, kS21, kS22, kS23, kS24, kS25, kS26, kS27, kS28, kS30, kS31, kS32, kS33, kS34, kS35, kS36, kS37, kS38, kS39, kS40, kS41, kS42, kS43, kS51, kS52, kS53, List.getElem?_cons_zero, List.getElem?_cons_succ, List.set_cons_zero, List.set_cons_succ, List.length_cons, List.length_nil, List.drop_succ_cons, List.drop_zero, List.cons_append, List.nil_append, Option.toList_some, Option.toList_none, cz, ci2, true_and, and_true, and_self, true_or, or_true, nI_1, Nat.reduceAdd, Nat.reduceLT]
      refine ⟨fun h => absurd h (nle (by omega) (by omega)), fun _ => ?_⟩
      refine ev_seg rfl ?_
      simp only [TE, sxs, sx, ldI, ldA, stI, stA, inc, gtF, ptF, ldX, stX, ldR, ldL, stL, dp1, dp2, Tm, kS0, kS1, kS2, kS3, kS4, kS5, kS6, kS7, kS8, kS9, kS10, kS11, kS12, kS13, kS14, kS15, kS16, kS17, kS18, kS19, kS20, kS21, kS22, kS23, kS24, kS25, kS26, kS27, kS28, kS30, kS31, kS32, kS33, kS34, kS35, kS36, kS37, kS38, kS39, kS40, kS41, kS42, kS43, kS51, kS52, kS53, List.getElem?_cons_zero, List.getElem?_cons_succ, List.set_cons_zero, List.set_cons_succ, List.length_cons, List.length_nil, List.drop_succ_cons, List.drop_zero, List.cons_append, List.nil_append, Option.toList_some, Option.toList_none, cz, ci2, true_and, and_true, and_self, true_or, or_true, nI_1, Nat.reduceAdd, Nat.reduceLT]
      refine ⟨(by first | assumption | (and_intros <;> first | assumption | trivial | decide)), fun h => ?_, fun h => ?_⟩
      · rw [show faux (fun c => X.1 18 0 r (nI c)) (fun c => X.1 18 0 s (nI c)) (q + 1) c = c from if_neg h]
        refine ev_seg rfl ?_
        simp only [TE, sxs, sx, ldI, ldA, stI, stA, inc, gtF, ptF, ldX, stX, ldR, ldL, stL, dp1, dp2, Tm, kS0, kS1, kS2, kS3, kS4, kS5, kS6, kS7, kS8, kS9, kS10, kS11, kS12, kS13, kS14, kS15, kS16, kS17, kS18, kS19, kS20, kS21, kS22, kS23, kS24, kS25, kS26, kS27, kS28, kS30, kS31, kS32, kS33, kS34, kS35, kS36, kS37, kS38, kS39, kS40, kS41, kS42, kS43, kS51, kS52, kS53, List.getElem?_cons_zero, List.getElem?_cons_succ, List.set_cons_zero, List.set_cons_succ, List.length_cons, List.length_nil, List.drop_succ_cons, List.drop_zero, List.cons_append, List.nil_append, Option.toList_some, Option.toList_none, cz, ci2, true_and, and_true, and_self, true_or, or_true, nI_1, Nat.reduceAdd, Nat.reduceLT]
      · rw [show faux (fun c => X.1 18 0 r (nI c)) (fun c => X.1 18 0 s (nI c)) (q + 1) c = faux (fun c => X.1 18 0 r (nI c)) (fun c => X.1 18 0 s (nI c)) q (c + 1) from if_pos (Classical.not_not.mp h)]
        refine ev_seg rfl ?_
        simp only [TE, sxs, sx, ldI, ldA, stI, stA, inc, gtF, ptF, ldX, stX, ldR, ldL, stL, dp1, dp2, Tm, kS0, kS1, kS2, kS3, kS4, kS5, kS6, kS7, kS8, kS9, kS10, kS11, kS12, kS13, kS14, kS15, kS16, kS17, kS18, kS19, kS20, kS21, kS22, kS23, kS24, kS25, kS26, kS27, kS28, kS30, kS31, kS32, kS33, kS34, kS35, kS36, kS37, kS38, kS39, kS40, kS41, kS42, kS43, kS51, kS52, kS53, List.getElem?_cons_zero, List.getElem?_cons_succ, List.set_cons_zero, List.set_cons_succ, List.length_cons, List.length_nil, List.drop_succ_cons, List.drop_zero, List.cons_append, List.nil_append, Option.toList_some, Option.toList_none, cz, ci2, true_and, and_true, and_self, true_or, or_true, nI_1, Nat.reduceAdd, Nat.reduceLT]
        exact ih
  exact loop m 0 (by omega)
theorem s_isBetter16 {r s : Int32} {m : Nat} (hr : vp_in r 6) (hs : vp_in s 6) (hm : m ≤ 5) [Decidable (bet (fun c => X.1 18 0 r (nI c)) (fun c => X.1 18 0 s (nI c)) m)] : Ev sc (d + 1) 31 0 (ent 31 [vR 16 0 0, vI r, vI s, vI (nI m)]) [] X (.inl (some (.inl (bI (bet (fun c => X.1 18 0 r (nI c)) (fun c => X.1 18 0 s (nI c)) m))))) X 0 := by
  rw [en31]
  refine ev_seg rfl ?_
  simp only [TE, sxs, sx, ldI, ldA, stI, stA, inc, gtF, ptF, ldX, stX, ldR, ldL, stL, dp1, dp2, Tm, kS0, kS1, kS2, kS3, kS4, kS5, kS6, kS7, kS8, kS9, kS10, kS11, kS12, kS13, kS14, kS15, kS16, kS17, kS18, kS19, kS20, kS21, kS22, kS23, kS24, kS25, kS26, kS27, kS28, kS30, kS31, kS32, kS33, kS34, kS35, kS36, kS37, kS38, kS39, kS40, kS41, kS42, kS43, kS51, kS52, kS53, List.getElem?_cons_zero, List.getElem?_cons_succ, List.set_cons_zero, List.set_cons_succ, List.length_cons, List.length_nil, List.drop_succ_cons, List.drop_zero, List.cons_append, List.nil_append, Option.toList_some, Option.toList_none, cz, ci2, true_and, and_true, and_self, true_or, or_true, nI_1, Nat.reduceAdd, Nat.reduceLT]
  refine cv4 rfl rfl (by first | exact rfl | exact trivial) (s_firstApart16 hr hs hm) ?_
  have hle := fa_le (fun c => X.1 18 0 r (nI c)) (fun c => X.1 18 0 s (nI c)) m
  refine ev_seg rfl ?_
  simp only [TE, sxs, sx, ldI, ldA, stI, stA, inc, gtF, ptF, ldX, stX, ldR, ldL, stL, dp1, dp2, Tm, kS0, kS1, kS2, kS3, kS4, kS5, kS6, kS7, kS8, kS9, kS10, kS11, kS12, kS13, kS14, kS15, kS16, kS17, kS18, kS19, kS20, kS21, kS22, kS23, kS24, kS25, kS26, kS27, kS28, kS30, kS31, kS32, kS33, kS34, kS35, kS36, kS37, kS38, kS39, kS40, kS41, kS42, kS43, kS51, kS52, kS53, List.getElem?_cons_zero, List.getElem?_cons_succ, List.set_cons_zero, List.set_cons_succ, List.length_cons, List.length_nil, List.drop_succ_cons, List.drop_zero, List.cons_append, List.nil_append, Option.toList_some, Option.toList_none, cz, ci2, true_and, and_true, and_self, true_or, or_true, nI_1, Nat.reduceAdd, Nat.reduceLT]
  refine ⟨fun h => ?_, fun h => ?_⟩
  · rw [bI_f (fun q => nle q.1 (by omega) h)]
    refine ev_seg rfl ?_
    simp only [TE, sxs, sx, ldI, ldA, stI, stA, inc, gtF, ptF, ldX, stX, ldR, ldL, stL, dp1, dp2, Tm, kS0, kS1, kS2, kS3, kS4, kS5, kS6, kS7, kS8, kS9, kS10, kS11, kS12, kS13, kS14, kS15, kS16, kS17, kS18, kS19, kS20, kS21, kS22, kS23, kS24, kS25, kS26, kS27, kS28, kS30, kS31, kS32, kS33, kS34, kS35, kS36, kS37, kS38, kS39, kS40, kS41, kS42, kS43, kS51, kS52, kS53, List.getElem?_cons_zero, List.getElem?_cons_succ, List.set_cons_zero, List.set_cons_succ, List.length_cons, List.length_nil, List.drop_succ_cons, List.drop_zero, List.cons_append, List.nil_append, Option.toList_some, Option.toList_none, cz, ci2, true_and, and_true, and_self, true_or, or_true, nI_1, Nat.reduceAdd, Nat.reduceLT]
    refine ev_seg rfl ?_
    simp only [TE, sxs, sx, ldI, ldA, stI, stA, inc, gtF, ptF, ldX, stX, ldR, ldL, stL, dp1, dp2, Tm, kS0, kS1, kS2, kS3, kS4, kS5, kS6, kS7, kS8, kS9, kS10, kS11, kS12, kS13, kS14, kS15, kS16, kS17, kS18, kS19, kS20, kS21, kS22, kS23, kS24, kS25, kS26, kS27, kS28, kS30, kS31, kS32, kS33, kS34, kS35, kS36, kS37, kS38, kS39, kS40, kS41, kS42, kS43, kS51, kS52, kS53, List.getElem?_cons_zero, List.getElem?_cons_succ, List.set_cons_zero, List.set_cons_succ, List.length_cons, List.length_nil, List.drop_succ_cons, List.drop_zero, List.cons_append, List.nil_append, Option.toList_some, Option.toList_none, cz, ci2, true_and, and_true, and_self, true_or, or_true, nI_1, Nat.reduceAdd, Nat.reduceLT]
  · have hlt : fa (fun c => X.1 18 0 r (nI c)) (fun c => X.1 18 0 s (nI c)) m < m := by
      rcases Nat.lt_or_ge (fa (fun c => X.1 18 0 r (nI c)) (fun c => X.1 18 0 s (nI c)) m) m with q | q
      · exact q
      · exact absurd (nleI q (by omega)) h
    have hc4 : vp_in (nI (fa (fun c => X.1 18 0 r (nI c)) (fun c => X.1 18 0 s (nI c)) m)) 5 := vpn (by omega) (by decide)
    refine ev_seg rfl ?_
    simp only [TE, sxs, sx, ldI, ldA, stI, stA, inc, gtF, ptF, ldX, stX, ldR, ldL, stL, dp1, dp2, Tm, kS0, kS1, kS2, kS3, kS4, kS5, kS6, kS7, kS8, kS9, kS10, kS11, kS12, kS13, kS14, kS15, kS16, kS17, kS18, kS19, kS20, kS21, kS22, kS23, kS24, kS25, kS26, kS27, kS28, kS30, kS31, kS32, kS33, kS34, kS35, kS36, kS37, kS38, kS39, kS40, kS41, kS42, kS43, kS51, kS52, kS53, List.getElem?_cons_zero, List.getElem?_cons_succ, List.set_cons_zero, List.set_cons_succ, List.length_cons, List.length_nil, List.drop_succ_cons, List.drop_zero, List.cons_append, List.nil_append, Option.toList_some, Option.toList_none, cz, ci2, true_and, and_true, and_self, true_or, or_true, nI_1, Nat.reduceAdd, Nat.reduceLT]
    refine ⟨(by first | assumption | (and_intros <;> first | assumption | trivial | decide)), fun h2 => ?_, fun h2 => ?_⟩
    · rw [bI_f (fun q => i_nlt h2 q.2)]
      refine ev_seg rfl ?_
      simp only [TE, sxs, sx, ldI, ldA, stI, stA, inc, gtF, ptF, ldX, stX, ldR, ldL, stL, dp1, dp2, Tm, kS0, kS1, kS2, kS3, kS4, kS5, kS6, kS7, kS8, kS9, kS10, kS11, kS12, kS13, kS14, kS15, kS16, kS17, kS18, kS19, kS20, kS21, kS22, kS23, kS24, kS25, kS26, kS27, kS28, kS30, kS31, kS32, kS33, kS34, kS35, kS36, kS37, kS38, kS39, kS40, kS41, kS42, kS43, kS51, kS52, kS53, List.getElem?_cons_zero, List.getElem?_cons_succ, List.set_cons_zero, List.set_cons_succ, List.length_cons, List.length_nil, List.drop_succ_cons, List.drop_zero, List.cons_append, List.nil_append, Option.toList_some, Option.toList_none, cz, ci2, true_and, and_true, and_self, true_or, or_true, nI_1, Nat.reduceAdd, Nat.reduceLT]
      refine ev_seg rfl ?_
      simp only [TE, sxs, sx, ldI, ldA, stI, stA, inc, gtF, ptF, ldX, stX, ldR, ldL, stL, dp1, dp2, Tm, kS0, kS1, kS2, kS3, kS4, kS5, kS6, kS7, kS8, kS9, kS10, kS11, kS12, kS13, kS14, kS15, kS16, kS17, kS18, kS19, kS20, kS21, kS22, kS23, kS24, kS25, kS26, kS27, kS28, kS30, kS31, kS32, kS33, kS34, kS35, kS36, kS37, kS38, kS39, kS40, kS41, kS42, kS43, kS51, kS52, kS53, List.getElem?_cons_zero, List.getElem?_cons_succ, List.set_cons_zero, List.set_cons_succ, List.length_cons, List.length_nil, List.drop_succ_cons, List.drop_zero, List.cons_append, List.nil_append, Option.toList_some, Option.toList_none, cz, ci2, true_and, and_true, and_self, true_or, or_true, nI_1, Nat.reduceAdd, Nat.reduceLT]
    · rw [bI_t ⟨hlt, i_lt h2⟩]
      refine ev_seg rfl ?_
      simp only [TE, sxs, sx, ldI, ldA, stI, stA, inc, gtF, ptF, ldX, stX, ldR, ldL, stL, dp1, dp2, Tm, kS0, kS1, kS2, kS3, kS4, kS5, kS6, kS7, kS8, kS9, kS10, kS11, kS12, kS13, kS14, kS15, kS16, kS17, kS18, kS19, kS20, kS21, kS22, kS23, kS24, kS25, kS26, kS27, kS28, kS30, kS31, kS32, kS33, kS34, kS35, kS36, kS37, kS38, kS39, kS40, kS41, kS42, kS43, kS51, kS52, kS53, List.getElem?_cons_zero, List.getElem?_cons_succ, List.set_cons_zero, List.set_cons_succ, List.length_cons, List.length_nil, List.drop_succ_cons, List.drop_zero, List.cons_append, List.nil_append, Option.toList_some, Option.toList_none, cz, ci2, true_and, and_true, and_self, true_or, or_true, nI_1, Nat.reduceAdd, Nat.reduceLT]
      refine ev_seg rfl ?_
      simp only [TE, sxs, sx, ldI, ldA, stI, stA, inc, gtF, ptF, ldX, stX, ldR, ldL, stL, dp1, dp2, Tm, kS0, kS1, kS2, kS3, kS4, kS5, kS6, kS7, kS8, kS9, kS10, kS11, kS12, kS13, kS14, kS15, kS16, kS17, kS18, kS19, kS20, kS21, kS22, kS23, kS24, kS25, kS26, kS27, kS28, kS30, kS31, kS32, kS33, kS34, kS35, kS36, kS37, kS38, kS39, kS40, kS41, kS42, kS43, kS51, kS52, kS53, List.getElem?_cons_zero, List.getElem?_cons_succ, List.set_cons_zero, List.set_cons_succ, List.length_cons, List.length_nil, List.drop_succ_cons, List.drop_zero, List.cons_append, List.nil_append, Option.toList_some, Option.toList_none, cz, ci2, true_and, and_true, and_self, true_or, or_true, nI_1, Nat.reduceAdd, Nat.reduceLT]
end Mks
