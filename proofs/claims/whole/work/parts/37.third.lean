/-! the reference: places and thirds -/
section Mth
variable {sc : SC} {d : Nat} {X : XT} {i b n : Nat}
/-- the place of a team in the reference -/
def PTM (X : XT) (b n : Nat) : Nat → Nat := PT (scM X b) n (KM X b n) (PM X b n)
def RTM (X : XT) (b n : Nat) : Nat → Nat → Nat := RT (scM X b) n (KM X b n) (PM X b n)
theorem PTM_fr {K : List Nat} {X' : XT} (hf : Fr K X X') (h4 : 34 ∉ K) (h5 : 35 ∉ K) (h6 : 36 ∉ K) (h7 : 37 ∉ K) : PTM X' b n = PTM X b n := by
  unfold PTM
  rw [scM_fr hf h7, KM_fr hf h5 h6 h7, PM_fr hf h4 h7]
theorem s_Mord (h : MS X i b n) (hV : MV X b n) :
    ∃ X', Ev sc (d + 5) 113 0 (ent 113 [vR 30 0 0, vI (nI i)]) [] X (.inl none) X' 0 ∧ Fr [38, 39, 40, 41] X X' ∧ (∀ k, k < n → X'.1 38 0 0 (nI k) = nI (PTM X b n k)) ∧ (∀ a a', a < n → a' < n → a ≠ a' → X'.1 40 0 0 (nI (5 * a + a')) = nI (RTM X b n a a')) ∧ (∀ k, k < n → PTM X b n k < n) ∧ ∀ a a', a < n → a' < n → PTM X b n a = PTM X b n a' → a = a' := s_Morders h hV
theorem s_MplaceOf (h : MS X i b n) (hV : MV X b n) {a : Nat} (ha : a < n) : ∃ X', Ev sc (d + 6) 114 0 (ent 114 [vR 30 0 0, vI (nI (b + a))]) [] X (.inl (some (.inl (nI (PTM X b n a))))) X' 0 ∧ Fr [38, 39, 40, 41] X X' ∧ PTM X b n a < n := by
  obtain ⟨X', a1, a2, a3, a4, a5, a6⟩ := s_Mord (sc := sc) (d := d) h hV
  have s1 := h.fr a2 (by decide) (by decide) (by decide)
  have h4 := h.1
  have v1 : vp_in (nI (b + a)) 30 := vpn (by omega) (by decide)
  have v2 : vp_in (nI i) 6 := vpn (by omega) (by decide)
  have v3 : vp_in (nI a) 5 := vpn (by omega) (by decide)
  refine ⟨X', ?_, a2, a5 a ha⟩
  rw [en114]
  refine ev_seg rfl ?_
  simp only [TE, sxs, sx, ldI, ldA, stI, stA, inc, gtF, ptF, ldX, stX, ldR, ldL, stL, dp1, dp2, Tm, kS0, kS1, kS2, kS3, kS4, kS5, kS6, kS7, kS8, kS9, kS10, kS11, kS12, kS13, kS14, kS15, kS16, kS17, kS18, kS19, kS20, kS21, kS22, kS23, kS24, kS25, kS26, kS27, kS28, kS30, kS31, kS32, kS33, kS34, kS35, kS36, kS37, kS38, kS39, kS40, kS41, kS42, kS43, kS51, kS52, kS53, List.getElem?_cons_zero, List.getElem?_cons_succ, List.set_cons_zero, List.set_cons_succ, List.length_cons, List.length_nil, List.drop_succ_cons, List.drop_zero, List.cons_append, List.nil_append, Option.toList_some, Option.toList_none, cz, ci2, true_and, and_true, and_self, true_or, or_true, nI_1, Nat.reduceAdd, Nat.reduceLT, h.2.2.2 a ha]
  refine ⟨(by first | assumption | (and_intros <;> first | assumption | trivial | decide)), cu2 rfl rfl (by first | exact rfl | exact trivial) (a1) ?_⟩
  refine ev_seg rfl ?_
  simp only [TE, sxs, sx, ldI, ldA, stI, stA, inc, gtF, ptF, ldX, stX, ldR, ldL, stL, dp1, dp2, Tm, kS0, kS1, kS2, kS3, kS4, kS5, kS6, kS7, kS8, kS9, kS10, kS11, kS12, kS13, kS14, kS15, kS16, kS17, kS18, kS19, kS20, kS21, kS22, kS23, kS24, kS25, kS26, kS27, kS28, kS30, kS31, kS32, kS33, kS34, kS35, kS36, kS37, kS38, kS39, kS40, kS41, kS42, kS43, kS51, kS52, kS53, List.getElem?_cons_zero, List.getElem?_cons_succ, List.set_cons_zero, List.set_cons_succ, List.length_cons, List.length_nil, List.drop_succ_cons, List.drop_zero, List.cons_append, List.nil_append, Option.toList_some, Option.toList_none, cz, ci2, true_and, and_true, and_self, true_or, or_true, nI_1, Nat.reduceAdd, Nat.reduceLT, s1.2.2.2 a ha, s1.2.1, nI_sb, a3 a ha]
  exact (by first | assumption | (and_intros <;> first | assumption | trivial | decide))
theorem s_MteamOn (h : MS X i b n) (hV : MV X b n) {t p : Nat} (ht : t < n) (hp : PTM X b n t = p) : ∃ X', Ev sc (d + 6) 115 0 (ent 115 [vR 30 0 0, vI (nI i), vI (nI p)]) [] X (.inl (some (.inl (nI (b + t))))) X' 0 ∧ Fr [38, 39, 40, 41] X X' := by
  obtain ⟨X', a1, a2, a3, a4, a5, a6⟩ := s_Mord (sc := sc) (d := d) h hV
  have s1 := h.fr a2 (by decide) (by decide) (by decide)
  have h4 := h.1
  have v2 : vp_in (nI i) 6 := vpn (by omega) (by decide)
  refine ⟨X', ?_, a2⟩
  have loop : ∀ k, k ≤ n → ∀ f : Int32, (t < k → f = nI (b + t)) → Ev sc (d + 6) 115 2 [vR 30 0 0, vI (nI i), vI (nI p), vI f, vI (nI k)] [] X' (.inl (some (.inl (nI (b + t))))) X' 0 := by
    apply loop_up
    · intro f hf
      rw [hf ht]
      refine ev_seg rfl ?_
      simp only [TE, sxs, sx, ldI, ldA, stI, stA, inc, gtF, ptF, ldX, stX, ldR, ldL, stL, dp1, dp2, Tm, kS0, kS1, kS2, kS3, kS4, kS5, kS6, kS7, kS8, kS9, kS10, kS11, kS12, kS13, kS14, kS15, kS16, kS17, kS18, kS19, kS20, kS21, kS22, kS23, kS24, kS25, kS26, kS27, kS28, kS30, kS31, kS32, kS33, kS34, kS35, kS36, kS37, kS38, kS39, kS40, kS41, kS42, kS43, kS51, kS52, kS53, List.getElem?_cons_zero, List.getElem?_cons_succ, List.set_cons_zero, List.set_cons_succ, List.length_cons, List.length_nil, List.drop_succ_cons, List.drop_zero, List.cons_append, List.nil_append, Option.toList_some, Option.toList_none, cz, ci2, true_and, and_true, and_self, true_or, or_true, nI_1, Nat.reduceAdd, Nat.reduceLT, s1.2.2.1]
      refine ⟨(by first | assumption | (and_intros <;> first | assumption | trivial | decide)), fun _ => ?_, fun w => absurd (nleI (Nat.le_refl _) (by omega)) w⟩
      refine ev_seg rfl ?_
      simp only [TE, sxs, sx, ldI, ldA, stI, stA, inc, gtF, ptF, ldX, stX, ldR, ldL, stL, dp1, dp2, Tm, kS0, kS1, kS2, kS3, kS4, kS5, kS6, kS7, kS8, kS9, kS10, kS11, kS12, kS13, kS14, kS15, kS16, kS17, kS18, kS19, kS20, kS21, kS22, kS23, kS24, kS25, kS26, kS27, kS28, kS30, kS31, kS32, kS33, kS34, kS35, kS36, kS37, kS38, kS39, kS40, kS41, kS42, kS43, kS51, kS52, kS53, List.getElem?_cons_zero, List.getElem?_cons_succ, List.set_cons_zero, List.set_cons_succ, List.length_cons, List.length_nil, List.drop_succ_cons, List.drop_zero, List.cons_append, List.nil_append, Option.toList_some, Option.toList_none, cz, ci2, true_and, and_true, and_self, true_or, or_true, nI_1, Nat.reduceAdd, Nat.reduceLT]
    · intro k hk ih f hf
      have v3 : vp_in (nI k) 5 := vpn (by omega) (by decide)
      refine ev_seg rfl ?_
      simp only [TE, sxs, sx, ldI, ldA, stI, stA, inc, gtF, ptF, ldX, stX, ldR, ldL, stL, dp1, dp2, Tm, kS0, kS1, kS2, kS3, kS4, kS5, kS6, kS7, kS8, kS9, kS10, kS11, kS12, kS13, kS14, kS15, kS16, kS17, kS18, kS19, kS20, kS21, kS22, kS23, kS24, kS25, kS26, kS27, kS28, kS30, kS31, kS32, kS33, kS34, kS35, kS36, kS37, kS38, kS39, kS40, kS41, kS42, kS43, kS51, kS52, kS53, List.getElem?_cons_zero, List.getElem?_cons_succ, List.set_cons_zero, List.set_cons_succ, List.length_cons, List.length_nil, List.drop_succ_cons, List.drop_zero, List.cons_append, List.nil_append, Option.toList_some, Option.toList_none, cz, ci2, true_and, and_true, and_self, true_or, or_true, nI_1, Nat.reduceAdd, Nat.reduceLT, s1.2.2.1]
      refine ⟨(by first | assumption | (and_intros <;> first | assumption | trivial | decide)), fun w => absurd w (nle hk (by omega)), fun _ => ?_⟩
      refine ev_seg rfl ?_
      simp only [TE, sxs, sx, ldI, ldA, stI, stA, inc, gtF, ptF, ldX, stX, ldR, ldL, stL, dp1, dp2, Tm, kS0, kS1, kS2, kS3, kS4, kS5, kS6, kS7, kS8, kS9, kS10, kS11, kS12, kS13, kS14, kS15, kS16, kS17, kS18, kS19, kS20, kS21, kS22, kS23, kS24, kS25, kS26, kS27, kS28, kS30, kS31, kS32, kS33, kS34, kS35, kS36, kS37, kS38, kS39, kS40, kS41, kS42, kS43, kS51, kS52, kS53, List.getElem?_cons_zero, List.getElem?_cons_succ, List.set_cons_zero, List.set_cons_succ, List.length_cons, List.length_nil, List.drop_succ_cons, List.drop_zero, List.cons_append, List.nil_append, Option.toList_some, Option.toList_none, cz, ci2, true_and, and_true, and_self, true_or, or_true, nI_1, Nat.reduceAdd, Nat.reduceLT, a3 k hk]
      have hlt := a5 k hk
      have hlt2 := a5 t ht
      refine ⟨(by first | assumption | (and_intros <;> first | assumption | trivial | decide)), fun w => ?_, fun w => ?_⟩
      · have hne : k ≠ t := fun e => w (by rw [e, hp])
        refine ev_seg rfl ?_
        simp only [TE, sxs, sx, ldI, ldA, stI, stA, inc, gtF, ptF, ldX, stX, ldR, ldL, stL, dp1, dp2, Tm, kS0, kS1, kS2, kS3, kS4, kS5, kS6, kS7, kS8, kS9, kS10, kS11, kS12, kS13, kS14, kS15, kS16, kS17, kS18, kS19, kS20, kS21, kS22, kS23, kS24, kS25, kS26, kS27, kS28, kS30, kS31, kS32, kS33, kS34, kS35, kS36, kS37, kS38, kS39, kS40, kS41, kS42, kS43, kS51, kS52, kS53, List.getElem?_cons_zero, List.getElem?_cons_succ, List.set_cons_zero, List.set_cons_succ, List.length_cons, List.length_nil, List.drop_succ_cons, List.drop_zero, List.cons_append, List.nil_append, Option.toList_some, Option.toList_none, cz, ci2, true_and, and_true, and_self, true_or, or_true, nI_1, Nat.reduceAdd, Nat.reduceLT]
        refine ev_seg rfl ?_
        simp only [TE, sxs, sx, ldI, ldA, stI, stA, inc, gtF, ptF, ldX, stX, ldR, ldL, stL, dp1, dp2, Tm, kS0, kS1, kS2, kS3, kS4, kS5, kS6, kS7, kS8, kS9, kS10, kS11, kS12, kS13, kS14, kS15, kS16, kS17, kS18, kS19, kS20, kS21, kS22, kS23, kS24, kS25, kS26, kS27, kS28, kS30, kS31, kS32, kS33, kS34, kS35, kS36, kS37, kS38, kS39, kS40, kS41, kS42, kS43, kS51, kS52, kS53, List.getElem?_cons_zero, List.getElem?_cons_succ, List.set_cons_zero, List.set_cons_succ, List.length_cons, List.length_nil, List.drop_succ_cons, List.drop_zero, List.cons_append, List.nil_append, Option.toList_some, Option.toList_none, cz, ci2, true_and, and_true, and_self, true_or, or_true, nI_1, Nat.reduceAdd, Nat.reduceLT]
        exact ih f (fun w2 => hf (by omega))
      · have he : k = t := a6 k t hk ht (by rw [hp]; exact nI_inj (by omega) (by omega) (Classical.not_not.mp w))
        refine ev_seg rfl ?_
        simp only [TE, sxs, sx, ldI, ldA, stI, stA, inc, gtF, ptF, ldX, stX, ldR, ldL, stL, dp1, dp2, Tm, kS0, kS1, kS2, kS3, kS4, kS5, kS6, kS7, kS8, kS9, kS10, kS11, kS12, kS13, kS14, kS15, kS16, kS17, kS18, kS19, kS20, kS21, kS22, kS23, kS24, kS25, kS26, kS27, kS28, kS30, kS31, kS32, kS33, kS34, kS35, kS36, kS37, kS38, kS39, kS40, kS41, kS42, kS43, kS51, kS52, kS53, List.getElem?_cons_zero, List.getElem?_cons_succ, List.set_cons_zero, List.set_cons_succ, List.length_cons, List.length_nil, List.drop_succ_cons, List.drop_zero, List.cons_append, List.nil_append, Option.toList_some, Option.toList_none, cz, ci2, true_and, and_true, and_self, true_or, or_true, nI_1, Nat.reduceAdd, Nat.reduceLT, s1.2.1, nI_ad]
        refine ⟨(by first | assumption | (and_intros <;> first | assumption | trivial | decide)), ?_⟩
        refine ev_seg rfl ?_
        simp only [TE, sxs, sx, ldI, ldA, stI, stA, inc, gtF, ptF, ldX, stX, ldR, ldL, stL, dp1, dp2, Tm, kS0, kS1, kS2, kS3, kS4, kS5, kS6, kS7, kS8, kS9, kS10, kS11, kS12, kS13, kS14, kS15, kS16, kS17, kS18, kS19, kS20, kS21, kS22, kS23, kS24, kS25, kS26, kS27, kS28, kS30, kS31, kS32, kS33, kS34, kS35, kS36, kS37, kS38, kS39, kS40, kS41, kS42, kS43, kS51, kS52, kS53, List.getElem?_cons_zero, List.getElem?_cons_succ, List.set_cons_zero, List.set_cons_succ, List.length_cons, List.length_nil, List.drop_succ_cons, List.drop_zero, List.cons_append, List.nil_append, Option.toList_some, Option.toList_none, cz, ci2, true_and, and_true, and_self, true_or, or_true, nI_1, Nat.reduceAdd, Nat.reduceLT]
        exact ih _ (fun _ => by rw [he])
  rw [en115]
  refine ev_seg rfl ?_
  simp only [TE, sxs, sx, ldI, ldA, stI, stA, inc, gtF, ptF, ldX, stX, ldR, ldL, stL, dp1, dp2, Tm, kS0, kS1, kS2, kS3, kS4, kS5, kS6, kS7, kS8, kS9, kS10, kS11, kS12, kS13, kS14, kS15, kS16, kS17, kS18, kS19, kS20, kS21, kS22, kS23, kS24, kS25, kS26, kS27, kS28, kS30, kS31, kS32, kS33, kS34, kS35, kS36, kS37, kS38, kS39, kS40, kS41, kS42, kS43, kS51, kS52, kS53, List.getElem?_cons_zero, List.getElem?_cons_succ, List.set_cons_zero, List.set_cons_succ, List.length_cons, List.length_nil, List.drop_succ_cons, List.drop_zero, List.cons_append, List.nil_append, Option.toList_some, Option.toList_none, cz, ci2, true_and, and_true, and_self, true_or, or_true, nI_1, Nat.reduceAdd, Nat.reduceLT]
  refine cu2 rfl rfl (by first | exact rfl | exact trivial) (a1) ?_
  refine ev_seg rfl ?_
  simp only [TE, sxs, sx, ldI, ldA, stI, stA, inc, gtF, ptF, ldX, stX, ldR, ldL, stL, dp1, dp2, Tm, kS0, kS1, kS2, kS3, kS4, kS5, kS6, kS7, kS8, kS9, kS10, kS11, kS12, kS13, kS14, kS15, kS16, kS17, kS18, kS19, kS20, kS21, kS22, kS23, kS24, kS25, kS26, kS27, kS28, kS30, kS31, kS32, kS33, kS34, kS35, kS36, kS37, kS38, kS39, kS40, kS41, kS42, kS43, kS51, kS52, kS53, List.getElem?_cons_zero, List.getElem?_cons_succ, List.set_cons_zero, List.set_cons_succ, List.length_cons, List.length_nil, List.drop_succ_cons, List.drop_zero, List.cons_append, List.nil_append, Option.toList_some, Option.toList_none, cz, ci2, true_and, and_true, and_self, true_or, or_true, nI_1, Nat.reduceAdd, Nat.reduceLT]
  exact loop 0 (Nat.zero_le _) _ (fun w => absurd w (by omega))
/-- all groups of the reference -/
def MA (X : XT) (c : Nat) (bs nn : Nat → Nat) : Prop := (c ≤ 6 ∧ X.1 30 0 0 0 = nI c) ∧ ∀ j, j < c → MS X j (bs j) (nn j) ∧ MV X (bs j) (nn j)
theorem MA.fr {K : List Nat} {X' : XT} {c : Nat} {bs nn : Nat → Nat} (h : MA X c bs nn) (hf : Fr K X X') (h0 : 30 ∉ K) (h1 : 31 ∉ K) (h2 : 32 ∉ K) (h3 : 33 ∉ K) (h4 : 34 ∉ K) (h5 : 35 ∉ K) (h6 : 36 ∉ K) (h7 : 37 ∉ K) : MA X' c bs nn := ⟨⟨h.1.1, by rw [hf.at 30 h0]; exact h.1.2⟩, fun j hj => ⟨(h.2 j hj).1.fr hf h1 h2 h3, (h.2 j hj).2.fr hf h4 h5 h6 h7⟩⟩
theorem s_Mcounting {c : Nat} {bs nn : Nat → Nat} (hA : MA X c bs nn) (hi : i < c) : ∃ X', Ev sc (d + 6) 127 0 (ent 127 [vR 30 0 0, vI (nI i)]) [] X (.inl (some (.inl (nI (msk (fun z => decide (PTM X (bs i) (nn i) z < mnS nn c)) (nn i)))))) X' 0 ∧ Fr [38, 39, 40, 41] X X' := by
  have h := (hA.2 i hi).1
  obtain ⟨X', a1, a2, a3, a4, a5, a6⟩ := s_Mord (sc := sc) (d := d) h (hA.2 i hi).2
  have s1 := h.fr a2 (by decide) (by decide) (by decide)
  have h4 := h.1
  have hc := hA.1.1
  have v2 : vp_in (nI i) 6 := vpn (by omega) (by decide)
  have hm9 := mnS_le nn c
  refine ⟨X', ?_, a2⟩
  have loop2 : ∀ k, k ≤ nn i → Ev sc (d + 6) 127 8 [vR 30 0 0, vI (nI i), vI (nI (mnS nn c)), vI (nI (msk (fun z => decide (PTM X (bs i) (nn i) z < mnS nn c)) k)), vI (nI k)] [] X' (.inl (some (.inl (nI (msk (fun z => decide (PTM X (bs i) (nn i) z < mnS nn c)) (nn i)))))) X' 0 := by
    apply loop_up
    · refine ev_seg rfl ?_
      simp only [TE, sxs, sx, ldI, ldA, stI, stA, inc, gtF, ptF, ldX, stX, ldR, ldL, stL, dp1, dp2, Tm, kS0, kS1, kS2, kS3, kS4, kS5, kS6, kS7, kS8, kS9, kS10, kS11, kS12, kS13, kS14, kS15, kS16, kS17, kS18, kS19, kS20, kS21, kS22, kS23, kS24, kS25, kS26, kS27, kS28, kS30, kS31, kS32, kS33, kS34, kS35, kS36, kS37, kS38, kS39, kS40, kS41, kS42, kS43, kS51, kS52, kS53, List.getElem?_cons_zero, List.getElem?_cons_succ, List.set_cons_zero, List.set_cons_succ, List.length_cons, List.length_nil, List.drop_succ_cons, List.drop_zero, List.cons_append, List.nil_append, Option.toList_some, Option.toList_none, cz, ci2, true_and, and_true, and_self, true_or, or_true, nI_1, Nat.reduceAdd, Nat.reduceLT, s1.2.2.1]
      refine ⟨(by first | assumption | (and_intros <;> first | assumption | trivial | decide)), fun _ => ?_, fun w => absurd (nleI (Nat.le_refl _) (by omega)) w⟩
      refine ev_seg rfl ?_
      simp only [TE, sxs, sx, ldI, ldA, stI, stA, inc, gtF, ptF, ldX, stX, ldR, ldL, stL, dp1, dp2, Tm, kS0, kS1, kS2, kS3, kS4, kS5, kS6, kS7, kS8, kS9, kS10, kS11, kS12, kS13, kS14, kS15, kS16, kS17, kS18, kS19, kS20, kS21, kS22, kS23, kS24, kS25, kS26, kS27, kS28, kS30, kS31, kS32, kS33, kS34, kS35, kS36, kS37, kS38, kS39, kS40, kS41, kS42, kS43, kS51, kS52, kS53, List.getElem?_cons_zero, List.getElem?_cons_succ, List.set_cons_zero, List.set_cons_succ, List.length_cons, List.length_nil, List.drop_succ_cons, List.drop_zero, List.cons_append, List.nil_append, Option.toList_some, Option.toList_none, cz, ci2, true_and, and_true, and_self, true_or, or_true, nI_1, Nat.reduceAdd, Nat.reduceLT]
    · intro k hk ih
      have v3 : vp_in (nI k) 5 := vpn (by omega) (by decide)
      have hlt := a5 k hk
      refine ev_seg rfl ?_
      simp only [TE, sxs, sx, ldI, ldA, stI, stA, inc, gtF, ptF, ldX, stX, ldR, ldL, stL, dp1, dp2, Tm, kS0, kS1, kS2, kS3, kS4, kS5, kS6, kS7, kS8, kS9, kS10, kS11, kS12, kS13, kS14, kS15, kS16, kS17, kS18, kS19, kS20, kS21, kS22, kS23, kS24, kS25, kS26, kS27, kS28, kS30, kS31, kS32, kS33, kS34, kS35, kS36, kS37, kS38, kS39, kS40, kS41, kS42, kS43, kS51, kS52, kS53, List.getElem?_cons_zero, List.getElem?_cons_succ, List.set_cons_zero, List.set_cons_succ, List.length_cons, List.length_nil, List.drop_succ_cons, List.drop_zero, List.cons_append, List.nil_append, Option.toList_some, Option.toList_none, cz, ci2, true_and, and_true, and_self, true_or, or_true, nI_1, Nat.reduceAdd, Nat.reduceLT, s1.2.2.1]
      refine ⟨(by first | assumption | (and_intros <;> first | assumption | trivial | decide)), fun w => absurd w (nle hk (by omega)), fun _ => ?_⟩
      refine ev_seg rfl ?_
      simp only [TE, sxs, sx, ldI, ldA, stI, stA, inc, gtF, ptF, ldX, stX, ldR, ldL, stL, dp1, dp2, Tm, kS0, kS1, kS2, kS3, kS4, kS5, kS6, kS7, kS8, kS9, kS10, kS11, kS12, kS13, kS14, kS15, kS16, kS17, kS18, kS19, kS20, kS21, kS22, kS23, kS24, kS25, kS26, kS27, kS28, kS30, kS31, kS32, kS33, kS34, kS35, kS36, kS37, kS38, kS39, kS40, kS41, kS42, kS43, kS51, kS52, kS53, List.getElem?_cons_zero, List.getElem?_cons_succ, List.set_cons_zero, List.set_cons_succ, List.length_cons, List.length_nil, List.drop_succ_cons, List.drop_zero, List.cons_append, List.nil_append, Option.toList_some, Option.toList_none, cz, ci2, true_and, and_true, and_self, true_or, or_true, nI_1, Nat.reduceAdd, Nat.reduceLT, a3 k hk]
      by_cases hc2 : PTM X (bs i) (nn i) k < mnS nn c
      · have e1 : msk (fun z => decide (PTM X (bs i) (nn i) z < mnS nn c)) (k + 1) = msk (fun z => decide (PTM X (bs i) (nn i) z < mnS nn c)) k ||| 2 ^ k := by
          rw [msk, if_pos (by rw [decide_eq_true_eq]; exact hc2)]
        rw [e1, ← (m_or _ (msk_lt _ (by omega)) k (by omega)).1] at ih
        refine ⟨(by first | assumption | (and_intros <;> first | assumption | trivial | decide)), fun w => absurd w (nle hc2 (by omega)), fun _ => ?_⟩
        refine ev_seg rfl ?_
        simp only [TE, sxs, sx, ldI, ldA, stI, stA, inc, gtF, ptF, ldX, stX, ldR, ldL, stL, dp1, dp2, Tm, kS0, kS1, kS2, kS3, kS4, kS5, kS6, kS7, kS8, kS9, kS10, kS11, kS12, kS13, kS14, kS15, kS16, kS17, kS18, kS19, kS20, kS21, kS22, kS23, kS24, kS25, kS26, kS27, kS28, kS30, kS31, kS32, kS33, kS34, kS35, kS36, kS37, kS38, kS39, kS40, kS41, kS42, kS43, kS51, kS52, kS53, List.getElem?_cons_zero, List.getElem?_cons_succ, List.set_cons_zero, List.set_cons_succ, List.length_cons, List.length_nil, List.drop_succ_cons, List.drop_zero, List.cons_append, List.nil_append, Option.toList_some, Option.toList_none, cz, ci2, true_and, and_true, and_self, true_or, or_true, nI_1, Nat.reduceAdd, Nat.reduceLT]
        refine ev_seg rfl ?_
        simp only [TE, sxs, sx, ldI, ldA, stI, stA, inc, gtF, ptF, ldX, stX, ldR, ldL, stL, dp1, dp2, Tm, kS0, kS1, kS2, kS3, kS4, kS5, kS6, kS7, kS8, kS9, kS10, kS11, kS12, kS13, kS14, kS15, kS16, kS17, kS18, kS19, kS20, kS21, kS22, kS23, kS24, kS25, kS26, kS27, kS28, kS30, kS31, kS32, kS33, kS34, kS35, kS36, kS37, kS38, kS39, kS40, kS41, kS42, kS43, kS51, kS52, kS53, List.getElem?_cons_zero, List.getElem?_cons_succ, List.set_cons_zero, List.set_cons_succ, List.length_cons, List.length_nil, List.drop_succ_cons, List.drop_zero, List.cons_append, List.nil_append, Option.toList_some, Option.toList_none, cz, ci2, true_and, and_true, and_self, true_or, or_true, nI_1, Nat.reduceAdd, Nat.reduceLT]
        exact ih
      · have e1 : msk (fun z => decide (PTM X (bs i) (nn i) z < mnS nn c)) (k + 1) = msk (fun z => decide (PTM X (bs i) (nn i) z < mnS nn c)) k := by
          rw [msk, if_neg (by rw [decide_eq_true_eq]; exact hc2)]
        rw [e1] at ih
        refine ⟨(by first | assumption | (and_intros <;> first | assumption | trivial | decide)), fun _ => ?_, fun w => absurd (nleI (by omega) (by omega)) w⟩
        refine ev_seg rfl ?_
        simp only [TE, sxs, sx, ldI, ldA, stI, stA, inc, gtF, ptF, ldX, stX, ldR, ldL, stL, dp1, dp2, Tm, kS0, kS1, kS2, kS3, kS4, kS5, kS6, kS7, kS8, kS9, kS10, kS11, kS12, kS13, kS14, kS15, kS16, kS17, kS18, kS19, kS20, kS21, kS22, kS23, kS24, kS25, kS26, kS27, kS28, kS30, kS31, kS32, kS33, kS34, kS35, kS36, kS37, kS38, kS39, kS40, kS41, kS42, kS43, kS51, kS52, kS53, List.getElem?_cons_zero, List.getElem?_cons_succ, List.set_cons_zero, List.set_cons_succ, List.length_cons, List.length_nil, List.drop_succ_cons, List.drop_zero, List.cons_append, List.nil_append, Option.toList_some, Option.toList_none, cz, ci2, true_and, and_true, and_self, true_or, or_true, nI_1, Nat.reduceAdd, Nat.reduceLT]
        refine ev_seg rfl ?_
        simp only [TE, sxs, sx, ldI, ldA, stI, stA, inc, gtF, ptF, ldX, stX, ldR, ldL, stL, dp1, dp2, Tm, kS0, kS1, kS2, kS3, kS4, kS5, kS6, kS7, kS8, kS9, kS10, kS11, kS12, kS13, kS14, kS15, kS16, kS17, kS18, kS19, kS20, kS21, kS22, kS23, kS24, kS25, kS26, kS27, kS28, kS30, kS31, kS32, kS33, kS34, kS35, kS36, kS37, kS38, kS39, kS40, kS41, kS42, kS43, kS51, kS52, kS53, List.getElem?_cons_zero, List.getElem?_cons_succ, List.set_cons_zero, List.set_cons_succ, List.length_cons, List.length_nil, List.drop_succ_cons, List.drop_zero, List.cons_append, List.nil_append, Option.toList_some, Option.toList_none, cz, ci2, true_and, and_true, and_self, true_or, or_true, nI_1, Nat.reduceAdd, Nat.reduceLT, Int32.or_zero]
        exact ih
  have loop1 : ∀ k, k ≤ c → Ev sc (d + 6) 127 1 [vR 30 0 0, vI (nI i), vI (nI (mnS nn k)), vI (nI k), av0] [] X (.inl (some (.inl (nI (msk (fun z => decide (PTM X (bs i) (nn i) z < mnS nn c)) (nn i)))))) X' 0 := by
    apply loop_up
    · refine ev_seg rfl ?_
      simp only [TE, sxs, sx, ldI, ldA, stI, stA, inc, gtF, ptF, ldX, stX, ldR, ldL, stL, dp1, dp2, Tm, kS0, kS1, kS2, kS3, kS4, kS5, kS6, kS7, kS8, kS9, kS10, kS11, kS12, kS13, kS14, kS15, kS16, kS17, kS18, kS19, kS20, kS21, kS22, kS23, kS24, kS25, kS26, kS27, kS28, kS30, kS31, kS32, kS33, kS34, kS35, kS36, kS37, kS38, kS39, kS40, kS41, kS42, kS43, kS51, kS52, kS53, List.getElem?_cons_zero, List.getElem?_cons_succ, List.set_cons_zero, List.set_cons_succ, List.length_cons, List.length_nil, List.drop_succ_cons, List.drop_zero, List.cons_append, List.nil_append, Option.toList_some, Option.toList_none, cz, ci2, true_and, and_true, and_self, true_or, or_true, nI_1, Nat.reduceAdd, Nat.reduceLT, hA.1.2]
      refine ⟨fun _ => ?_, fun w => absurd (nleI (Nat.le_refl _) (by omega)) w⟩
      refine ev_seg rfl ?_
      simp only [TE, sxs, sx, ldI, ldA, stI, stA, inc, gtF, ptF, ldX, stX, ldR, ldL, stL, dp1, dp2, Tm, kS0, kS1, kS2, kS3, kS4, kS5, kS6, kS7, kS8, kS9, kS10, kS11, kS12, kS13, kS14, kS15, kS16, kS17, kS18, kS19, kS20, kS21, kS22, kS23, kS24, kS25, kS26, kS27, kS28, kS30, kS31, kS32, kS33, kS34, kS35, kS36, kS37, kS38, kS39, kS40, kS41, kS42, kS43, kS51, kS52, kS53, List.getElem?_cons_zero, List.getElem?_cons_succ, List.set_cons_zero, List.set_cons_succ, List.length_cons, List.length_nil, List.drop_succ_cons, List.drop_zero, List.cons_append, List.nil_append, Option.toList_some, Option.toList_none, cz, ci2, true_and, and_true, and_self, true_or, or_true, nI_1, Nat.reduceAdd, Nat.reduceLT]
      refine cu2 rfl rfl (by first | exact rfl | exact trivial) (a1) ?_
      refine ev_seg rfl ?_
      simp only [TE, sxs, sx, ldI, ldA, stI, stA, inc, gtF, ptF, ldX, stX, ldR, ldL, stL, dp1, dp2, Tm, kS0, kS1, kS2, kS3, kS4, kS5, kS6, kS7, kS8, kS9, kS10, kS11, kS12, kS13, kS14, kS15, kS16, kS17, kS18, kS19, kS20, kS21, kS22, kS23, kS24, kS25, kS26, kS27, kS28, kS30, kS31, kS32, kS33, kS34, kS35, kS36, kS37, kS38, kS39, kS40, kS41, kS42, kS43, kS51, kS52, kS53, List.getElem?_cons_zero, List.getElem?_cons_succ, List.set_cons_zero, List.set_cons_succ, List.length_cons, List.length_nil, List.drop_succ_cons, List.drop_zero, List.cons_append, List.nil_append, Option.toList_some, Option.toList_none, cz, ci2, true_and, and_true, and_self, true_or, or_true, nI_1, Nat.reduceAdd, Nat.reduceLT]
      exact loop2 0 (Nat.zero_le _)
    · intro k hk ih
      have hk4 := (hA.2 k hk).1.1
      have v3 : vp_in (nI k) 6 := vpn (by omega) (by decide)
      have hm := mnS_le nn k
      refine ev_seg rfl ?_
      simp only [TE, sxs, sx, ldI, ldA, stI, stA, inc, gtF, ptF, ldX, stX, ldR, ldL, stL, dp1, dp2, Tm, kS0, kS1, kS2, kS3, kS4, kS5, kS6, kS7, kS8, kS9, kS10, kS11, kS12, kS13, kS14, kS15, kS16, kS17, kS18, kS19, kS20, kS21, kS22, kS23, kS24, kS25, kS26, kS27, kS28, kS30, kS31, kS32, kS33, kS34, kS35, kS36, kS37, kS38, kS39, kS40, kS41, kS42, kS43, kS51, kS52, kS53, List.getElem?_cons_zero, List.getElem?_cons_succ, List.set_cons_zero, List.set_cons_succ, List.length_cons, List.length_nil, List.drop_succ_cons, List.drop_zero, List.cons_append, List.nil_append, Option.toList_some, Option.toList_none, cz, ci2, true_and, and_true, and_self, true_or, or_true, nI_1, Nat.reduceAdd, Nat.reduceLT, hA.1.2]
      refine ⟨fun w => absurd w (nle hk (by omega)), fun _ => ?_⟩
      refine ev_seg rfl ?_
      simp only [TE, sxs, sx, ldI, ldA, stI, stA, inc, gtF, ptF, ldX, stX, ldR, ldL, stL, dp1, dp2, Tm, kS0, kS1, kS2, kS3, kS4, kS5, kS6, kS7, kS8, kS9, kS10, kS11, kS12, kS13, kS14, kS15, kS16, kS17, kS18, kS19, kS20, kS21, kS22, kS23, kS24, kS25, kS26, kS27, kS28, kS30, kS31, kS32, kS33, kS34, kS35, kS36, kS37, kS38, kS39, kS40, kS41, kS42, kS43, kS51, kS52, kS53, List.getElem?_cons_zero, List.getElem?_cons_succ, List.set_cons_zero, List.set_cons_succ, List.length_cons, List.length_nil, List.drop_succ_cons, List.drop_zero, List.cons_append, List.nil_append, Option.toList_some, Option.toList_none, cz, ci2, true_and, and_true, and_self, true_or, or_true, nI_1, Nat.reduceAdd, Nat.reduceLT, (hA.2 k hk).1.2.2.1]
      by_cases hc2 : nn k < mnS nn k
      · rw [mnS, Nat.min_eq_right (by omega)] at ih
        refine ⟨(by first | assumption | (and_intros <;> first | assumption | trivial | decide)), fun w => absurd w (nle hc2 (by omega)), fun _ => ?_⟩
        refine ev_seg rfl ?_
        simp only [TE, sxs, sx, ldI, ldA, stI, stA, inc, gtF, ptF, ldX, stX, ldR, ldL, stL, dp1, dp2, Tm, kS0, kS1, kS2, kS3, kS4, kS5, kS6, kS7, kS8, kS9, kS10, kS11, kS12, kS13, kS14, kS15, kS16, kS17, kS18, kS19, kS20, kS21, kS22, kS23, kS24, kS25, kS26, kS27, kS28, kS30, kS31, kS32, kS33, kS34, kS35, kS36, kS37, kS38, kS39, kS40, kS41, kS42, kS43, kS51, kS52, kS53, List.getElem?_cons_zero, List.getElem?_cons_succ, List.set_cons_zero, List.set_cons_succ, List.length_cons, List.length_nil, List.drop_succ_cons, List.drop_zero, List.cons_append, List.nil_append, Option.toList_some, Option.toList_none, cz, ci2, true_and, and_true, and_self, true_or, or_true, nI_1, Nat.reduceAdd, Nat.reduceLT, (hA.2 k hk).1.2.2.1]
        refine ⟨(by first | assumption | (and_intros <;> first | assumption | trivial | decide)), ?_⟩
        refine ev_seg rfl ?_
        simp only [TE, sxs, sx, ldI, ldA, stI, stA, inc, gtF, ptF, ldX, stX, ldR, ldL, stL, dp1, dp2, Tm, kS0, kS1, kS2, kS3, kS4, kS5, kS6, kS7, kS8, kS9, kS10, kS11, kS12, kS13, kS14, kS15, kS16, kS17, kS18, kS19, kS20, kS21, kS22, kS23, kS24, kS25, kS26, kS27, kS28, kS30, kS31, kS32, kS33, kS34, kS35, kS36, kS37, kS38, kS39, kS40, kS41, kS42, kS43, kS51, kS52, kS53, List.getElem?_cons_zero, List.getElem?_cons_succ, List.set_cons_zero, List.set_cons_succ, List.length_cons, List.length_nil, List.drop_succ_cons, List.drop_zero, List.cons_append, List.nil_append, Option.toList_some, Option.toList_none, cz, ci2, true_and, and_true, and_self, true_or, or_true, nI_1, Nat.reduceAdd, Nat.reduceLT]
        exact ih
      · rw [mnS, Nat.min_eq_left (by omega)] at ih
        refine ⟨(by first | assumption | (and_intros <;> first | assumption | trivial | decide)), fun _ => ?_, fun w => absurd (nleI (by omega) (by omega)) w⟩
        refine ev_seg rfl ?_
        simp only [TE, sxs, sx, ldI, ldA, stI, stA, inc, gtF, ptF, ldX, stX, ldR, ldL, stL, dp1, dp2, Tm, kS0, kS1, kS2, kS3, kS4, kS5, kS6, kS7, kS8, kS9, kS10, kS11, kS12, kS13, kS14, kS15, kS16, kS17, kS18, kS19, kS20, kS21, kS22, kS23, kS24, kS25, kS26, kS27, kS28, kS30, kS31, kS32, kS33, kS34, kS35, kS36, kS37, kS38, kS39, kS40, kS41, kS42, kS43, kS51, kS52, kS53, List.getElem?_cons_zero, List.getElem?_cons_succ, List.set_cons_zero, List.set_cons_succ, List.length_cons, List.length_nil, List.drop_succ_cons, List.drop_zero, List.cons_append, List.nil_append, Option.toList_some, Option.toList_none, cz, ci2, true_and, and_true, and_self, true_or, or_true, nI_1, Nat.reduceAdd, Nat.reduceLT]
        refine ev_seg rfl ?_
        simp only [TE, sxs, sx, ldI, ldA, stI, stA, inc, gtF, ptF, ldX, stX, ldR, ldL, stL, dp1, dp2, Tm, kS0, kS1, kS2, kS3, kS4, kS5, kS6, kS7, kS8, kS9, kS10, kS11, kS12, kS13, kS14, kS15, kS16, kS17, kS18, kS19, kS20, kS21, kS22, kS23, kS24, kS25, kS26, kS27, kS28, kS30, kS31, kS32, kS33, kS34, kS35, kS36, kS37, kS38, kS39, kS40, kS41, kS42, kS43, kS51, kS52, kS53, List.getElem?_cons_zero, List.getElem?_cons_succ, List.set_cons_zero, List.set_cons_succ, List.length_cons, List.length_nil, List.drop_succ_cons, List.drop_zero, List.cons_append, List.nil_append, Option.toList_some, Option.toList_none, cz, ci2, true_and, and_true, and_self, true_or, or_true, nI_1, Nat.reduceAdd, Nat.reduceLT]
        exact ih
  rw [en127]
  refine ev_seg rfl ?_
  simp only [TE, sxs, sx, ldI, ldA, stI, stA, inc, gtF, ptF, ldX, stX, ldR, ldL, stL, dp1, dp2, Tm, kS0, kS1, kS2, kS3, kS4, kS5, kS6, kS7, kS8, kS9, kS10, kS11, kS12, kS13, kS14, kS15, kS16, kS17, kS18, kS19, kS20, kS21, kS22, kS23, kS24, kS25, kS26, kS27, kS28, kS30, kS31, kS32, kS33, kS34, kS35, kS36, kS37, kS38, kS39, kS40, kS41, kS42, kS43, kS51, kS52, kS53, List.getElem?_cons_zero, List.getElem?_cons_succ, List.set_cons_zero, List.set_cons_succ, List.length_cons, List.length_nil, List.drop_succ_cons, List.drop_zero, List.cons_append, List.nil_append, Option.toList_some, Option.toList_none, cz, ci2, true_and, and_true, and_self, true_or, or_true, nI_1, Nat.reduceAdd, Nat.reduceLT]
  exact loop1 0 (Nat.zero_le _)
/-- the sums of a third -/
def TSM (X : XT) (c : Nat) (bs nn : Nat → Nat) (i t w : Nat) : Int32 := rsC (scM X (bs i)) (nn i) (fun z => decide (PTM X (bs i) (nn i) z < mnS nn c)) (fW3 w) t - (if w = 0 then awM X (bs i) t else 0)
theorem s_MthirdSum {c : Nat} {bs nn : Nat → Nat} (hA : MA X c bs nn) (hi : i < c) {t w : Nat} (ht : t < nn i) (hp : PTM X (bs i) (nn i) t = 2) (hw : w < 3) : ∃ X', Ev sc (d + 7) 128 0 (ent 128 [vR 30 0 0, vI (nI i), vI (nI w)]) [] X (.inl (some (.inl (TSM X c bs nn i t w)))) X' 0 ∧ Fr [38, 39, 40, 41] X X' := by
  have h := (hA.2 i hi).1
  have h4 := h.1
  obtain ⟨X1, a1, a2⟩ := s_Mcounting (sc := sc) (d := d) hA hi
  have A1 := hA.fr a2 (by decide) (by decide) (by decide) (by decide) (by decide) (by decide) (by decide) (by decide)
  obtain ⟨X2, b1, b2⟩ := s_MteamOn (sc := sc) (d := d) (A1.2 i hi).1 (A1.2 i hi).2 (t := t) (p := 2) ht (by rw [PTM_fr a2 (by decide) (by decide) (by decide) (by decide)]; exact hp)
  have f2 := a2.tr b2
  have A2 := hA.fr f2 (by decide) (by decide) (by decide) (by decide) (by decide) (by decide) (by decide) (by decide)
  have hs := s_Msums (sc := sc) (d := d + 4) (A2.2 i hi).1 (A2.2 i hi).2.1 (a := t) (w := w) (M := msk (fun z => decide (PTM X (bs i) (nn i) z < mnS nn c)) (nn i)) ht hw (msk_lt _ h4.2.2.1)
  rw [rsC_msk, scM_fr f2 (by decide)] at hs
  have v1 : vp_in (nI (bs i + t)) 30 := vpn (by omega) (by decide)
  refine ⟨X2, ?_, f2⟩
  rw [en128]
  refine ev_seg rfl ?_
  simp only [TE, sxs, sx, ldI, ldA, stI, stA, inc, gtF, ptF, ldX, stX, ldR, ldL, stL, dp1, dp2, Tm, kS0, kS1, kS2, kS3, kS4, kS5, kS6, kS7, kS8, kS9, kS10, kS11, kS12, kS13, kS14, kS15, kS16, kS17, kS18, kS19, kS20, kS21, kS22, kS23, kS24, kS25, kS26, kS27, kS28, kS30, kS31, kS32, kS33, kS34, kS35, kS36, kS37, kS38, kS39, kS40, kS41, kS42, kS43, kS51, kS52, kS53, List.getElem?_cons_zero, List.getElem?_cons_succ, List.set_cons_zero, List.set_cons_succ, List.length_cons, List.length_nil, List.drop_succ_cons, List.drop_zero, List.cons_append, List.nil_append, Option.toList_some, Option.toList_none, cz, ci2, true_and, and_true, and_self, true_or, or_true, nI_1, Nat.reduceAdd, Nat.reduceLT]
  refine cv2 rfl rfl (by first | exact rfl | exact trivial) (a1) ?_
  refine ev_seg rfl ?_
  simp only [TE, sxs, sx, ldI, ldA, stI, stA, inc, gtF, ptF, ldX, stX, ldR, ldL, stL, dp1, dp2, Tm, kS0, kS1, kS2, kS3, kS4, kS5, kS6, kS7, kS8, kS9, kS10, kS11, kS12, kS13, kS14, kS15, kS16, kS17, kS18, kS19, kS20, kS21, kS22, kS23, kS24, kS25, kS26, kS27, kS28, kS30, kS31, kS32, kS33, kS34, kS35, kS36, kS37, kS38, kS39, kS40, kS41, kS42, kS43, kS51, kS52, kS53, List.getElem?_cons_zero, List.getElem?_cons_succ, List.set_cons_zero, List.set_cons_succ, List.length_cons, List.length_nil, List.drop_succ_cons, List.drop_zero, List.cons_append, List.nil_append, Option.toList_some, Option.toList_none, cz, ci2, true_and, and_true, and_self, true_or, or_true, nI_1, Nat.reduceAdd, Nat.reduceLT]
  refine cv3 rfl rfl (by first | exact rfl | exact trivial) (b1) ?_
  refine ev_seg rfl ?_
  simp only [TE, sxs, sx, ldI, ldA, stI, stA, inc, gtF, ptF, ldX, stX, ldR, ldL, stL, dp1, dp2, Tm, kS0, kS1, kS2, kS3, kS4, kS5, kS6, kS7, kS8, kS9, kS10, kS11, kS12, kS13, kS14, kS15, kS16, kS17, kS18, kS19, kS20, kS21, kS22, kS23, kS24, kS25, kS26, kS27, kS28, kS30, kS31, kS32, kS33, kS34, kS35, kS36, kS37, kS38, kS39, kS40, kS41, kS42, kS43, kS51, kS52, kS53, List.getElem?_cons_zero, List.getElem?_cons_succ, List.set_cons_zero, List.set_cons_succ, List.length_cons, List.length_nil, List.drop_succ_cons, List.drop_zero, List.cons_append, List.nil_append, Option.toList_some, Option.toList_none, cz, ci2, true_and, and_true, and_self, true_or, or_true, nI_1, Nat.reduceAdd, Nat.reduceLT]
  refine cv4 rfl rfl (by first | exact rfl | exact trivial) (hs) ?_
  unfold TSM
  by_cases hw0 : w = 0
  · rw [if_pos hw0, hw0]
    have r34 : X2.1 34 0 0 (nI (bs i + t)) = awM X (bs i) t := f2.at 34 (by decide) _ _ _
    refine ev_seg rfl ?_
    simp only [TE, sxs, sx, ldI, ldA, stI, stA, inc, gtF, ptF, ldX, stX, ldR, ldL, stL, dp1, dp2, Tm, kS0, kS1, kS2, kS3, kS4, kS5, kS6, kS7, kS8, kS9, kS10, kS11, kS12, kS13, kS14, kS15, kS16, kS17, kS18, kS19, kS20, kS21, kS22, kS23, kS24, kS25, kS26, kS27, kS28, kS30, kS31, kS32, kS33, kS34, kS35, kS36, kS37, kS38, kS39, kS40, kS41, kS42, kS43, kS51, kS52, kS53, List.getElem?_cons_zero, List.getElem?_cons_succ, List.set_cons_zero, List.set_cons_succ, List.length_cons, List.length_nil, List.drop_succ_cons, List.drop_zero, List.cons_append, List.nil_append, Option.toList_some, Option.toList_none, cz, ci2, true_and, and_true, and_self, true_or, or_true, nI_1, Nat.reduceAdd, Nat.reduceLT]
    refine ⟨fun q => absurd rfl q, fun _ => ?_⟩
    refine ev_seg rfl ?_
    simp only [TE, sxs, sx, ldI, ldA, stI, stA, inc, gtF, ptF, ldX, stX, ldR, ldL, stL, dp1, dp2, Tm, kS0, kS1, kS2, kS3, kS4, kS5, kS6, kS7, kS8, kS9, kS10, kS11, kS12, kS13, kS14, kS15, kS16, kS17, kS18, kS19, kS20, kS21, kS22, kS23, kS24, kS25, kS26, kS27, kS28, kS30, kS31, kS32, kS33, kS34, kS35, kS36, kS37, kS38, kS39, kS40, kS41, kS42, kS43, kS51, kS52, kS53, List.getElem?_cons_zero, List.getElem?_cons_succ, List.set_cons_zero, List.set_cons_succ, List.length_cons, List.length_nil, List.drop_succ_cons, List.drop_zero, List.cons_append, List.nil_append, Option.toList_some, Option.toList_none, cz, ci2, true_and, and_true, and_self, true_or, or_true, nI_1, Nat.reduceAdd, Nat.reduceLT, r34]
    refine ⟨(by first | assumption | (and_intros <;> first | assumption | trivial | decide)), ?_⟩
    refine ev_seg rfl ?_
    simp only [TE, sxs, sx, ldI, ldA, stI, stA, inc, gtF, ptF, ldX, stX, ldR, ldL, stL, dp1, dp2, Tm, kS0, kS1, kS2, kS3, kS4, kS5, kS6, kS7, kS8, kS9, kS10, kS11, kS12, kS13, kS14, kS15, kS16, kS17, kS18, kS19, kS20, kS21, kS22, kS23, kS24, kS25, kS26, kS27, kS28, kS30, kS31, kS32, kS33, kS34, kS35, kS36, kS37, kS38, kS39, kS40, kS41, kS42, kS43, kS51, kS52, kS53, List.getElem?_cons_zero, List.getElem?_cons_succ, List.set_cons_zero, List.set_cons_succ, List.length_cons, List.length_nil, List.drop_succ_cons, List.drop_zero, List.cons_append, List.nil_append, Option.toList_some, Option.toList_none, cz, ci2, true_and, and_true, and_self, true_or, or_true, nI_1, Nat.reduceAdd, Nat.reduceLT]
  · rw [if_neg hw0]
    have hne : ¬ nI w = 0 := fun q => hw0 (nI_inj (b := 0) (by omega) (by omega) q)
    refine ev_seg rfl ?_
    simp only [TE, sxs, sx, ldI, ldA, stI, stA, inc, gtF, ptF, ldX, stX, ldR, ldL, stL, dp1, dp2, Tm, kS0, kS1, kS2, kS3, kS4, kS5, kS6, kS7, kS8, kS9, kS10, kS11, kS12, kS13, kS14, kS15, kS16, kS17, kS18, kS19, kS20, kS21, kS22, kS23, kS24, kS25, kS26, kS27, kS28, kS30, kS31, kS32, kS33, kS34, kS35, kS36, kS37, kS38, kS39, kS40, kS41, kS42, kS43, kS51, kS52, kS53, List.getElem?_cons_zero, List.getElem?_cons_succ, List.set_cons_zero, List.set_cons_succ, List.length_cons, List.length_nil, List.drop_succ_cons, List.drop_zero, List.cons_append, List.nil_append, Option.toList_some, Option.toList_none, cz, ci2, true_and, and_true, and_self, true_or, or_true, nI_1, Nat.reduceAdd, Nat.reduceLT]
    refine ⟨fun _ => ?_, fun q => absurd hne q⟩
    refine ev_seg rfl ?_
    simp only [TE, sxs, sx, ldI, ldA, stI, stA, inc, gtF, ptF, ldX, stX, ldR, ldL, stL, dp1, dp2, Tm, kS0, kS1, kS2, kS3, kS4, kS5, kS6, kS7, kS8, kS9, kS10, kS11, kS12, kS13, kS14, kS15, kS16, kS17, kS18, kS19, kS20, kS21, kS22, kS23, kS24, kS25, kS26, kS27, kS28, kS30, kS31, kS32, kS33, kS34, kS35, kS36, kS37, kS38, kS39, kS40, kS41, kS42, kS43, kS51, kS52, kS53, List.getElem?_cons_zero, List.getElem?_cons_succ, List.set_cons_zero, List.set_cons_succ, List.length_cons, List.length_nil, List.drop_succ_cons, List.drop_zero, List.cons_append, List.nil_append, Option.toList_some, Option.toList_none, cz, ci2, true_and, and_true, and_self, true_or, or_true, nI_1, Nat.reduceAdd, Nat.reduceLT]
    refine ev_seg rfl ?_
    simp only [TE, sxs, sx, ldI, ldA, stI, stA, inc, gtF, ptF, ldX, stX, ldR, ldL, stL, dp1, dp2, Tm, kS0, kS1, kS2, kS3, kS4, kS5, kS6, kS7, kS8, kS9, kS10, kS11, kS12, kS13, kS14, kS15, kS16, kS17, kS18, kS19, kS20, kS21, kS22, kS23, kS24, kS25, kS26, kS27, kS28, kS30, kS31, kS32, kS33, kS34, kS35, kS36, kS37, kS38, kS39, kS40, kS41, kS42, kS43, kS51, kS52, kS53, List.getElem?_cons_zero, List.getElem?_cons_succ, List.set_cons_zero, List.set_cons_succ, List.length_cons, List.length_nil, List.drop_succ_cons, List.drop_zero, List.cons_append, List.nil_append, Option.toList_some, Option.toList_none, cz, ci2, true_and, and_true, and_self, true_or, or_true, nI_1, Nat.reduceAdd, Nat.reduceLT]
end Mth
