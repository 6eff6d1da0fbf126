/-! the reference: comparing thirds -/
section Mbt
variable {sc : SC} {d : Nat} {X : XT} {c : Nat} {bs nn : Nat → Nat}
def M5M (X : XT) (c : Nat) (bs nn : Nat → Nat) (i t q : Nat) : Int32 := if q < 3 then TSM X c bs nn i t q else if q = 3 then -caM X (bs i) t else -(loM X (bs i) t * 6 * 5 + nI (bs i) + nI t)
theorem betB_at {f g : Nat → Int32} {m k : Nat} {D : Int32} (hk : k < m) (h1 : ∀ c, c < k → f c = g c) (hD : DIF D (f k) (g k)) (hne : ¬ D = 0) : betB f g m = decide (¬ D ≤ 0) := by
  have hf : fa f g m = k := fa_uniq hk h1 (fun w => hne (hD.1.mpr w))
  rw [Bool.eq_iff_iff, betB_iff, decide_eq_true_eq]
  unfold bet
  rw [hf]
  constructor
  · intro w q
    exact hD.2.mp q w.2
  · intro w
    exact ⟨hk, Classical.not_not.mp (fun q => w (hD.2.mpr q))⟩
theorem TSM_bd (hA : MA X c bs nn) {i t w : Nat} (hi : i < c) (ht : t < nn i) : ∃ z, TSM X c bs nn i t w = zI z ∧ -200 ≤ z ∧ z ≤ 200 := by
  have hV := (hA.2 i hi).2
  have h4 := (hA.2 i hi).1.1
  obtain ⟨⟨x, x1, x2⟩, ⟨y, y1, y2⟩, z, z1, z2⟩ := rs_bd hV.1 hV.2.1 h4.2.2.1 ht (fun z => decide (PTM X (bs i) (nn i) z < mnS nn c))
  obtain ⟨v, v1, v2⟩ := hV.2.2.1 t ht
  have hz0 : ∀ x : Int, zI x - 0 = zI x := fun x => Int32.sub_zero _
  unfold TSM fW3
  by_cases h0 : w = 0
  · rw [if_pos h0, if_pos h0]
    exact ⟨x - v, by rw [x1, v2, zI_n, ← Int32.ofInt_sub], by omega, by omega⟩
  · rw [if_neg h0, if_neg h0]
    by_cases h1 : w = 1
    · rw [if_pos h1]
      exact ⟨y, by rw [y1, hz0], by omega, by omega⟩
    · rw [if_neg h1]
      exact ⟨z, by rw [z1, hz0], by omega, by omega⟩
theorem TSM_fr {K : List Nat} {X' : XT} {i : Nat} (hf : Fr K X X') (h4 : 34 ∉ K) (h5 : 35 ∉ K) (h6 : 36 ∉ K) (h7 : 37 ∉ K) : TSM X' c bs nn i = TSM X c bs nn i := by
  funext t w
  unfold TSM
  rw [PTM_fr hf h4 h5 h6 h7, scM_fr hf h7, awM_fr hf h4]
theorem s_MisBetter (hA : MA X c bs nn) {i j t u : Nat} (hi : i < c) (hj : j < c) (ht : t < nn i) (hu : u < nn j) (hpt : PTM X (bs i) (nn i) t = 2) (hpu : PTM X (bs j) (nn j) u = 2) (hne : bs i + t ≠ bs j + u) :
    ∃ X', Ev sc (d + 8) 129 0 (ent 129 [vR 30 0 0, vI (nI i), vI (nI j)]) [] X (.inl (some (.inl (bI (betB (M5M X c bs nn i t) (M5M X c bs nn j u) 5 = true))))) X' 0 ∧ Fr [38, 39, 40, 41] X X' := by
  have fA : ∀ {Y : XT}, Fr [38, 39, 40, 41] X Y → MA Y c bs nn := fun hf => hA.fr hf (by decide) (by decide) (by decide) (by decide) (by decide) (by decide) (by decide) (by decide)
  have fP : ∀ {Y : XT} (k : Nat), Fr [38, 39, 40, 41] X Y → PTM Y (bs k) (nn k) = PTM X (bs k) (nn k) := fun k hf => PTM_fr hf (by decide) (by decide) (by decide) (by decide)
  have fT : ∀ {Y : XT} (k : Nat), Fr [38, 39, 40, 41] X Y → TSM Y c bs nn k = TSM X c bs nn k := fun k hf => TSM_fr hf (by decide) (by decide) (by decide) (by decide)
  have h4i := (hA.2 i hi).1.1
  have h4j := (hA.2 j hj).1.1
  have v1 : vp_in (nI (bs i + t)) 30 := vpn (by omega) (by decide)
  have v2 : vp_in (nI (bs j + u)) 30 := vpn (by omega) (by decide)
  obtain ⟨ca, ca1, ca2⟩ := (hA.2 i hi).2.2.2.2.1 t ht
  obtain ⟨cb, cb1, cb2⟩ := (hA.2 j hj).2.2.2.2.1 u hu
  obtain ⟨la, la1, la2⟩ := (hA.2 i hi).2.2.2.2.2 t ht
  obtain ⟨lb, lb1, lb2⟩ := (hA.2 j hj).2.2.2.2.2 u hu
  have hneg : ∀ x : Nat, -nI x = zI (-x) := fun x => by rw [zI_n]; exact (Int32.ofInt_neg _).symm
  have hlot : ∀ (l b a : Nat), -(nI l * 6 * 5 + nI b + nI a) = zI (-(30 * l + b + a : Nat)) := by
    intro l b a
    rw [show (6 : Int32) = nI 6 from rfl, show (5 : Int32) = nI 5 from rfl, nI_ml, nI_ml, nI_ad, nI_ad, hneg]
    congr 3
    omega
  -- behind the sums
  have tail : ∀ {Y : XT} (z5 z6 : AV), Fr [38, 39, 40, 41] X Y → (∀ k, k < 3 → M5M X c bs nn i t k = M5M X c bs nn j u k) → Ev sc (d + 8) 129 12 [vR 30 0 0, vI (nI i), vI (nI j), vI (nI (bs i + t)), vI (nI (bs j + u)), z5, z6] [] Y (.inl (some (.inl (bI (betB (M5M X c bs nn i t) (M5M X c bs nn j u) 5 = true))))) Y 0 := by
    intro Y z5 z6 hf hag
    have r35 : Y.1 35 0 0 (nI (bs i + t)) = nI ca := (hf.at 35 (by decide) _ _ _).trans ca2
    have r35' : Y.1 35 0 0 (nI (bs j + u)) = nI cb := (hf.at 35 (by decide) _ _ _).trans cb2
    have r36 : Y.1 36 0 0 (nI (bs i + t)) = nI la := (hf.at 36 (by decide) _ _ _).trans la2
    have r36' : Y.1 36 0 0 (nI (bs j + u)) = nI lb := (hf.at 36 (by decide) _ _ _).trans lb2
    have k3a : M5M X c bs nn i t 3 = zI (-ca) := by show -caM X (bs i) t = _; rw [ca2, hneg]
    have k3b : M5M X c bs nn j u 3 = zI (-cb) := by show -caM X (bs j) u = _; rw [cb2, hneg]
    have k4a : M5M X c bs nn i t 4 = zI (-(30 * la + bs i + t : Nat)) := by show -(loM X (bs i) t * 6 * 5 + nI (bs i) + nI t) = _; rw [la2, hlot]
    have k4b : M5M X c bs nn j u 4 = zI (-(30 * lb + bs j + u : Nat)) := by show -(loM X (bs j) u * 6 * 5 + nI (bs j) + nI u) = _; rw [lb2, hlot]
    have zz : ∀ {w : Int}, -20000 ≤ w → w ≤ 20000 → (decide (¬ zI w ≤ 0) = decide (0 < w)) := by
      intro w h1 h2
      rw [Bool.eq_iff_iff, decide_eq_true_eq, decide_eq_true_eq, show (0 : Int32) = zI 0 from rfl, zI_le (by omega) (by omega) (by omega) (by omega)]
      omega
    have nz : ∀ {w : Int}, -20000 ≤ w → w ≤ 20000 → w ≠ 0 → ¬ zI w = 0 := by
      intro w h1 h2 h3
      rw [show (0 : Int32) = zI 0 from rfl, zI_inj (by omega) (by omega) (by omega) (by omega)]
      exact h3
    by_cases hc : ca = cb
    · have e3 : ∀ k, k < 4 → M5M X c bs nn i t k = M5M X c bs nn j u k := fun k hk => by
        by_cases h3 : k = 3
        · rw [h3, k3a, k3b, hc]
        · exact hag k (by omega)
      by_cases hl : la = lb
      · have hbt : betB (M5M X c bs nn i t) (M5M X c bs nn j u) 5 = decide (bs i + t < bs j + u) := by
          rw [betB_at (k := 4) (D := zI ((bs j : Int) + u - bs i - t)) (by decide) e3 (DIF.mk k4a k4b (by omega) (by omega) rfl (by omega) (by omega) (by omega)) (nz (by omega) (by omega) (by omega)), zz (by omega) (by omega), Bool.eq_iff_iff, decide_eq_true_eq, decide_eq_true_eq]
          omega
        rw [hbt]
        refine ev_seg rfl ?_
        simp only [TE, sxs, sx, ldI, ldA, stI, stA, inc, gtF, ptF, ldX, stX, ldR, ldL, stL, dp1, dp2, Tm, kS0, kS1, kS2, kS3, kS4, kS5, kS6, kS7, kS8, kS9, kS10, kS11, kS12, kS13, kS14, kS15, kS16, kS17, kS18, kS19, kS20, kS21, kS22, kS23, kS24, kS25, kS26, kS27, kS28, kS30, kS31, kS32, kS33, kS34, kS35, kS36, kS37, kS38, kS39, kS40, kS41, kS42, kS43, kS51, kS52, kS53, List.getElem?_cons_zero, List.getElem?_cons_succ, List.set_cons_zero, List.set_cons_succ, List.length_cons, List.length_nil, List.drop_succ_cons, List.drop_zero, List.cons_append, List.nil_append, Option.toList_some, Option.toList_none, cz, ci2, true_and, and_true, and_self, true_or, or_true, nI_1, Nat.reduceAdd, Nat.reduceLT, r35, r35', hc]
        refine ⟨⟨v1, v2⟩, fun _ => ?_, fun w => absurd trivial w⟩
        refine ev_seg rfl ?_
        simp only [TE, sxs, sx, ldI, ldA, stI, stA, inc, gtF, ptF, ldX, stX, ldR, ldL, stL, dp1, dp2, Tm, kS0, kS1, kS2, kS3, kS4, kS5, kS6, kS7, kS8, kS9, kS10, kS11, kS12, kS13, kS14, kS15, kS16, kS17, kS18, kS19, kS20, kS21, kS22, kS23, kS24, kS25, kS26, kS27, kS28, kS30, kS31, kS32, kS33, kS34, kS35, kS36, kS37, kS38, kS39, kS40, kS41, kS42, kS43, kS51, kS52, kS53, List.getElem?_cons_zero, List.getElem?_cons_succ, List.set_cons_zero, List.set_cons_succ, List.length_cons, List.length_nil, List.drop_succ_cons, List.drop_zero, List.cons_append, List.nil_append, Option.toList_some, Option.toList_none, cz, ci2, true_and, and_true, and_self, true_or, or_true, nI_1, Nat.reduceAdd, Nat.reduceLT, r36, r36', hl]
        refine ⟨⟨v1, v2⟩, fun _ => ?_, fun w => absurd trivial w⟩
        refine ev_seg rfl ?_
        simp only [TE, sxs, sx, ldI, ldA, stI, stA, inc, gtF, ptF, ldX, stX, ldR, ldL, stL, dp1, dp2, Tm, kS0, kS1, kS2, kS3, kS4, kS5, kS6, kS7, kS8, kS9, kS10, kS11, kS12, kS13, kS14, kS15, kS16, kS17, kS18, kS19, kS20, kS21, kS22, kS23, kS24, kS25, kS26, kS27, kS28, kS30, kS31, kS32, kS33, kS34, kS35, kS36, kS37, kS38, kS39, kS40, kS41, kS42, kS43, kS51, kS52, kS53, List.getElem?_cons_zero, List.getElem?_cons_succ, List.set_cons_zero, List.set_cons_succ, List.length_cons, List.length_nil, List.drop_succ_cons, List.drop_zero, List.cons_append, List.nil_append, Option.toList_some, Option.toList_none, cz, ci2, true_and, and_true, and_self, true_or, or_true, nI_1, Nat.reduceAdd, Nat.reduceLT]
        by_cases hb : bs i + t < bs j + u
        · rw [bI_t (by rw [decide_eq_true_eq]; exact hb)]
          refine ⟨fun w => absurd w (nle hb (by omega)), fun _ => ?_⟩
          refine ev_seg rfl ?_
          simp only [TE, sxs, sx, ldI, ldA, stI, stA, inc, gtF, ptF, ldX, stX, ldR, ldL, stL, dp1, dp2, Tm, kS0, kS1, kS2, kS3, kS4, kS5, kS6, kS7, kS8, kS9, kS10, kS11, kS12, kS13, kS14, kS15, kS16, kS17, kS18, kS19, kS20, kS21, kS22, kS23, kS24, kS25, kS26, kS27, kS28, kS30, kS31, kS32, kS33, kS34, kS35, kS36, kS37, kS38, kS39, kS40, kS41, kS42, kS43, kS51, kS52, kS53, List.getElem?_cons_zero, List.getElem?_cons_succ, List.set_cons_zero, List.set_cons_succ, List.length_cons, List.length_nil, List.drop_succ_cons, List.drop_zero, List.cons_append, List.nil_append, Option.toList_some, Option.toList_none, cz, ci2, true_and, and_true, and_self, true_or, or_true, nI_1, Nat.reduceAdd, Nat.reduceLT]
          refine ev_seg rfl ?_
          simp only [TE, sxs, sx, ldI, ldA, stI, stA, inc, gtF, ptF, ldX, stX, ldR, ldL, stL, dp1, dp2, Tm, kS0, kS1, kS2, kS3, kS4, kS5, kS6, kS7, kS8, kS9, kS10, kS11, kS12, kS13, kS14, kS15, kS16, kS17, kS18, kS19, kS20, kS21, kS22, kS23, kS24, kS25, kS26, kS27, kS28, kS30, kS31, kS32, kS33, kS34, kS35, kS36, kS37, kS38, kS39, kS40, kS41, kS42, kS43, kS51, kS52, kS53, List.getElem?_cons_zero, List.getElem?_cons_succ, List.set_cons_zero, List.set_cons_succ, List.length_cons, List.length_nil, List.drop_succ_cons, List.drop_zero, List.cons_append, List.nil_append, Option.toList_some, Option.toList_none, cz, ci2, true_and, and_true, and_self, true_or, or_true, nI_1, Nat.reduceAdd, Nat.reduceLT]
        · rw [bI_f (by rw [decide_eq_true_eq]; exact hb)]
          refine ⟨fun _ => ?_, fun w => absurd (nleI (by omega) (by omega)) w⟩
          refine ev_seg rfl ?_
          simp only [TE, sxs, sx, ldI, ldA, stI, stA, inc, gtF, ptF, ldX, stX, ldR, ldL, stL, dp1, dp2, Tm, kS0, kS1, kS2, kS3, kS4, kS5, kS6, kS7, kS8, kS9, kS10, kS11, kS12, kS13, kS14, kS15, kS16, kS17, kS18, kS19, kS20, kS21, kS22, kS23, kS24, kS25, kS26, kS27, kS28, kS30, kS31, kS32, kS33, kS34, kS35, kS36, kS37, kS38, kS39, kS40, kS41, kS42, kS43, kS51, kS52, kS53, List.getElem?_cons_zero, List.getElem?_cons_succ, List.set_cons_zero, List.set_cons_succ, List.length_cons, List.length_nil, List.drop_succ_cons, List.drop_zero, List.cons_append, List.nil_append, Option.toList_some, Option.toList_none, cz, ci2, true_and, and_true, and_self, true_or, or_true, nI_1, Nat.reduceAdd, Nat.reduceLT]
          refine ev_seg rfl ?_
          simp only [TE, sxs, sx, ldI, ldA, stI, stA, inc, gtF, ptF, ldX, stX, ldR, ldL, stL, dp1, dp2, Tm, kS0, kS1, kS2, kS3, kS4, kS5, kS6, kS7, kS8, kS9, kS10, kS11, kS12, kS13, kS14, kS15, kS16, kS17, kS18, kS19, kS20, kS21, kS22, kS23, kS24, kS25, kS26, kS27, kS28, kS30, kS31, kS32, kS33, kS34, kS35, kS36, kS37, kS38, kS39, kS40, kS41, kS42, kS43, kS51, kS52, kS53, List.getElem?_cons_zero, List.getElem?_cons_succ, List.set_cons_zero, List.set_cons_succ, List.length_cons, List.length_nil, List.drop_succ_cons, List.drop_zero, List.cons_append, List.nil_append, Option.toList_some, Option.toList_none, cz, ci2, true_and, and_true, and_self, true_or, or_true, nI_1, Nat.reduceAdd, Nat.reduceLT]
      · have hbt : betB (M5M X c bs nn i t) (M5M X c bs nn j u) 5 = decide (la < lb) := by
          rw [betB_at (k := 4) (D := zI (30 * lb + bs j + u - 30 * la - bs i - t)) (by decide) e3 (DIF.mk k4a k4b (by omega) (by omega) rfl (by omega) (by omega) (by omega)) (nz (by omega) (by omega) (by omega)), zz (by omega) (by omega), Bool.eq_iff_iff, decide_eq_true_eq, decide_eq_true_eq]
          omega
        have hln : ¬ nI la = nI lb := fun q => hl (nI_inj (by omega) (by omega) q)
        rw [hbt]
        refine ev_seg rfl ?_
        simp only [TE, sxs, sx, ldI, ldA, stI, stA, inc, gtF, ptF, ldX, stX, ldR, ldL, stL, dp1, dp2, Tm, kS0, kS1, kS2, kS3, kS4, kS5, kS6, kS7, kS8, kS9, kS10, kS11, kS12, kS13, kS14, kS15, kS16, kS17, kS18, kS19, kS20, kS21, kS22, kS23, kS24, kS25, kS26, kS27, kS28, kS30, kS31, kS32, kS33, kS34, kS35, kS36, kS37, kS38, kS39, kS40, kS41, kS42, kS43, kS51, kS52, kS53, List.getElem?_cons_zero, List.getElem?_cons_succ, List.set_cons_zero, List.set_cons_succ, List.length_cons, List.length_nil, List.drop_succ_cons, List.drop_zero, List.cons_append, List.nil_append, Option.toList_some, Option.toList_none, cz, ci2, true_and, and_true, and_self, true_or, or_true, nI_1, Nat.reduceAdd, Nat.reduceLT, r35, r35', hc]
        refine ⟨⟨v1, v2⟩, fun _ => ?_, fun w => absurd trivial w⟩
        refine ev_seg rfl ?_
        simp only [TE, sxs, sx, ldI, ldA, stI, stA, inc, gtF, ptF, ldX, stX, ldR, ldL, stL, dp1, dp2, Tm, kS0, kS1, kS2, kS3, kS4, kS5, kS6, kS7, kS8, kS9, kS10, kS11, kS12, kS13, kS14, kS15, kS16, kS17, kS18, kS19, kS20, kS21, kS22, kS23, kS24, kS25, kS26, kS27, kS28, kS30, kS31, kS32, kS33, kS34, kS35, kS36, kS37, kS38, kS39, kS40, kS41, kS42, kS43, kS51, kS52, kS53, List.getElem?_cons_zero, List.getElem?_cons_succ, List.set_cons_zero, List.set_cons_succ, List.length_cons, List.length_nil, List.drop_succ_cons, List.drop_zero, List.cons_append, List.nil_append, Option.toList_some, Option.toList_none, cz, ci2, true_and, and_true, and_self, true_or, or_true, nI_1, Nat.reduceAdd, Nat.reduceLT, r36, r36']
        refine ⟨⟨v1, v2⟩, fun w => absurd w hln, fun _ => ?_⟩
        refine ev_seg rfl ?_
        simp only [TE, sxs, sx, ldI, ldA, stI, stA, inc, gtF, ptF, ldX, stX, ldR, ldL, stL, dp1, dp2, Tm, kS0, kS1, kS2, kS3, kS4, kS5, kS6, kS7, kS8, kS9, kS10, kS11, kS12, kS13, kS14, kS15, kS16, kS17, kS18, kS19, kS20, kS21, kS22, kS23, kS24, kS25, kS26, kS27, kS28, kS30, kS31, kS32, kS33, kS34, kS35, kS36, kS37, kS38, kS39, kS40, kS41, kS42, kS43, kS51, kS52, kS53, List.getElem?_cons_zero, List.getElem?_cons_succ, List.set_cons_zero, List.set_cons_succ, List.length_cons, List.length_nil, List.drop_succ_cons, List.drop_zero, List.cons_append, List.nil_append, Option.toList_some, Option.toList_none, cz, ci2, true_and, and_true, and_self, true_or, or_true, nI_1, Nat.reduceAdd, Nat.reduceLT, r36, r36']
        by_cases hb : la < lb
        · rw [bI_t (by rw [decide_eq_true_eq]; exact hb)]
          refine ⟨⟨v1, v2⟩, fun w => absurd w (nle hb (by omega)), fun _ => ?_⟩
          refine ev_seg rfl ?_
          simp only [TE, sxs, sx, ldI, ldA, stI, stA, inc, gtF, ptF, ldX, stX, ldR, ldL, stL, dp1, dp2, Tm, kS0, kS1, kS2, kS3, kS4, kS5, kS6, kS7, kS8, kS9, kS10, kS11, kS12, kS13, kS14, kS15, kS16, kS17, kS18, kS19, kS20, kS21, kS22, kS23, kS24, kS25, kS26, kS27, kS28, kS30, kS31, kS32, kS33, kS34, kS35, kS36, kS37, kS38, kS39, kS40, kS41, kS42, kS43, kS51, kS52, kS53, List.getElem?_cons_zero, List.getElem?_cons_succ, List.set_cons_zero, List.set_cons_succ, List.length_cons, List.length_nil, List.drop_succ_cons, List.drop_zero, List.cons_append, List.nil_append, Option.toList_some, Option.toList_none, cz, ci2, true_and, and_true, and_self, true_or, or_true, nI_1, Nat.reduceAdd, Nat.reduceLT]
          refine ev_seg rfl ?_
          simp only [TE, sxs, sx, ldI, ldA, stI, stA, inc, gtF, ptF, ldX, stX, ldR, ldL, stL, dp1, dp2, Tm, kS0, kS1, kS2, kS3, kS4, kS5, kS6, kS7, kS8, kS9, kS10, kS11, kS12, kS13, kS14, kS15, kS16, kS17, kS18, kS19, kS20, kS21, kS22, kS23, kS24, kS25, kS26, kS27, kS28, kS30, kS31, kS32, kS33, kS34, kS35, kS36, kS37, kS38, kS39, kS40, kS41, kS42, kS43, kS51, kS52, kS53, List.getElem?_cons_zero, List.getElem?_cons_succ, List.set_cons_zero, List.set_cons_succ, List.length_cons, List.length_nil, List.drop_succ_cons, List.drop_zero, List.cons_append, List.nil_append, Option.toList_some, Option.toList_none, cz, ci2, true_and, and_true, and_self, true_or, or_true, nI_1, Nat.reduceAdd, Nat.reduceLT]
        · rw [bI_f (by rw [decide_eq_true_eq]; exact hb)]
          refine ⟨⟨v1, v2⟩, fun _ => ?_, fun w => absurd (nleI (by omega) (by omega)) w⟩
          refine ev_seg rfl ?_
          simp only [TE, sxs, sx, ldI, ldA, stI, stA, inc, gtF, ptF, ldX, stX, ldR, ldL, stL, dp1, dp2, Tm, kS0, kS1, kS2, kS3, kS4, kS5, kS6, kS7, kS8, kS9, kS10, kS11, kS12, kS13, kS14, kS15, kS16, kS17, kS18, kS19, kS20, kS21, kS22, kS23, kS24, kS25, kS26, kS27, kS28, kS30, kS31, kS32, kS33, kS34, kS35, kS36, kS37, kS38, kS39, kS40, kS41, kS42, kS43, kS51, kS52, kS53, List.getElem?_cons_zero, List.getElem?_cons_succ, List.set_cons_zero, List.set_cons_succ, List.length_cons, List.length_nil, List.drop_succ_cons, List.drop_zero, List.cons_append, List.nil_append, Option.toList_some, Option.toList_none, cz, ci2, true_and, and_true, and_self, true_or, or_true, nI_1, Nat.reduceAdd, Nat.reduceLT]
          refine ev_seg rfl ?_
          simp only [TE, sxs, sx, ldI, ldA, stI, stA, inc, gtF, ptF, ldX, stX, ldR, ldL, stL, dp1, dp2, Tm, kS0, kS1, kS2, kS3, kS4, kS5, kS6, kS7, kS8, kS9, kS10, kS11, kS12, kS13, kS14, kS15, kS16, kS17, kS18, kS19, kS20, kS21, kS22, kS23, kS24, kS25, kS26, kS27, kS28, kS30, kS31, kS32, kS33, kS34, kS35, kS36, kS37, kS38, kS39, kS40, kS41, kS42, kS43, kS51, kS52, kS53, List.getElem?_cons_zero, List.getElem?_cons_succ, List.set_cons_zero, List.set_cons_succ, List.length_cons, List.length_nil, List.drop_succ_cons, List.drop_zero, List.cons_append, List.nil_append, Option.toList_some, Option.toList_none, cz, ci2, true_and, and_true, and_self, true_or, or_true, nI_1, Nat.reduceAdd, Nat.reduceLT]
    · have hbt : betB (M5M X c bs nn i t) (M5M X c bs nn j u) 5 = decide (ca < cb) := by
        rw [betB_at (k := 3) (D := zI ((cb : Int) - ca)) (by decide) hag (DIF.mk k3a k3b (by omega) (by omega) rfl (by omega) (by omega) (by omega)) (nz (by omega) (by omega) (by omega)), zz (by omega) (by omega), Bool.eq_iff_iff, decide_eq_true_eq, decide_eq_true_eq]
        omega
      have hcn : ¬ nI ca = nI cb := fun q => hc (nI_inj (by omega) (by omega) q)
      rw [hbt]
      refine ev_seg rfl ?_
      simp only [TE, sxs, sx, ldI, ldA, stI, stA, inc, gtF, ptF, ldX, stX, ldR, ldL, stL, dp1, dp2, Tm, kS0, kS1, kS2, kS3, kS4, kS5, kS6, kS7, kS8, kS9, kS10, kS11, kS12, kS13, kS14, kS15, kS16, kS17, kS18, kS19, kS20, kS21, kS22, kS23, kS24, kS25, kS26, kS27, kS28, kS30, kS31, kS32, kS33, kS34, kS35, kS36, kS37, kS38, kS39, kS40, kS41, kS42, kS43, kS51, kS52, kS53, List.getElem?_cons_zero, List.getElem?_cons_succ, List.set_cons_zero, List.set_cons_succ, List.length_cons, List.length_nil, List.drop_succ_cons, List.drop_zero, List.cons_append, List.nil_append, Option.toList_some, Option.toList_none, cz, ci2, true_and, and_true, and_self, true_or, or_true, nI_1, Nat.reduceAdd, Nat.reduceLT, r35, r35']
      refine ⟨⟨v1, v2⟩, fun w => absurd w hcn, fun _ => ?_⟩
      refine ev_seg rfl ?_
      simp only [TE, sxs, sx, ldI, ldA, stI, stA, inc, gtF, ptF, ldX, stX, ldR, ldL, stL, dp1, dp2, Tm, kS0, kS1, kS2, kS3, kS4, kS5, kS6, kS7, kS8, kS9, kS10, kS11, kS12, kS13, kS14, kS15, kS16, kS17, kS18, kS19, kS20, kS21, kS22, kS23, kS24, kS25, kS26, kS27, kS28, kS30, kS31, kS32, kS33, kS34, kS35, kS36, kS37, kS38, kS39, kS40, kS41, kS42, kS43, kS51, kS52, kS53, List.getElem?_cons_zero, List.getElem?_cons_succ, List.set_cons_zero, List.set_cons_succ, List.length_cons, List.length_nil, List.drop_succ_cons, List.drop_zero, List.cons_append, List.nil_append, Option.toList_some, Option.toList_none, cz, ci2, true_and, and_true, and_self, true_or, or_true, nI_1, Nat.reduceAdd, Nat.reduceLT, r35, r35']
      by_cases hb : ca < cb
      · rw [bI_t (by rw [decide_eq_true_eq]; exact hb)]
        refine ⟨⟨v1, v2⟩, fun w => absurd w (nle hb (by omega)), fun _ => ?_⟩
        refine ev_seg rfl ?_
        simp only [TE, sxs, sx, ldI, ldA, stI, stA, inc, gtF, ptF, ldX, stX, ldR, ldL, stL, dp1, dp2, Tm, kS0, kS1, kS2, kS3, kS4, kS5, kS6, kS7, kS8, kS9, kS10, kS11, kS12, kS13, kS14, kS15, kS16, kS17, kS18, kS19, kS20, kS21, kS22, kS23, kS24, kS25, kS26, kS27, kS28, kS30, kS31, kS32, kS33, kS34, kS35, kS36, kS37, kS38, kS39, kS40, kS41, kS42, kS43, kS51, kS52, kS53, List.getElem?_cons_zero, List.getElem?_cons_succ, List.set_cons_zero, List.set_cons_succ, List.length_cons, List.length_nil, List.drop_succ_cons, List.drop_zero, List.cons_append, List.nil_append, Option.toList_some, Option.toList_none, cz, ci2, true_and, and_true, and_self, true_or, or_true, nI_1, Nat.reduceAdd, Nat.reduceLT]
        refine ev_seg rfl ?_
        simp only [TE, sxs, sx, ldI, ldA, stI, stA, inc, gtF, ptF, ldX, stX, ldR, ldL, stL, dp1, dp2, Tm, kS0, kS1, kS2, kS3, kS4, kS5, kS6, kS7, kS8, kS9, kS10, kS11, kS12, kS13, kS14, kS15, kS16, kS17, kS18, kS19, kS20, kS21, kS22, kS23, kS24, kS25, kS26, kS27, kS28, kS30, kS31, kS32, kS33, kS34, kS35, kS36, kS37, kS38, kS39, kS40, kS41, kS42, kS43, kS51, kS52, kS53, List.getElem?_cons_zero, List.getElem?_cons_succ, List.set_cons_zero, List.set_cons_succ, List.length_cons, List.length_nil, List.drop_succ_cons, List.drop_zero, List.cons_append, List.nil_append, Option.toList_some, Option.toList_none, cz, ci2, true_and, and_true, and_self, true_or, or_true, nI_1, Nat.reduceAdd, Nat.reduceLT]
      · rw [bI_f (by rw [decide_eq_true_eq]; exact hb)]
        refine ⟨⟨v1, v2⟩, fun _ => ?_, fun w => absurd (nleI (by omega) (by omega)) w⟩
        refine ev_seg rfl ?_
        simp only [TE, sxs, sx, ldI, ldA, stI, stA, inc, gtF, ptF, ldX, stX, ldR, ldL, stL, dp1, dp2, Tm, kS0, kS1, kS2, kS3, kS4, kS5, kS6, kS7, kS8, kS9, kS10, kS11, kS12, kS13, kS14, kS15, kS16, kS17, kS18, kS19, kS20, kS21, kS22, kS23, kS24, kS25, kS26, kS27, kS28, kS30, kS31, kS32, kS33, kS34, kS35, kS36, kS37, kS38, kS39, kS40, kS41, kS42, kS43, kS51, kS52, kS53, List.getElem?_cons_zero, List.getElem?_cons_succ, List.set_cons_zero, List.set_cons_succ, List.length_cons, List.length_nil, List.drop_succ_cons, List.drop_zero, List.cons_append, List.nil_append, Option.toList_some, Option.toList_none, cz, ci2, true_and, and_true, and_self, true_or, or_true, nI_1, Nat.reduceAdd, Nat.reduceLT]
        refine ev_seg rfl ?_
        simp only [TE, sxs, sx, ldI, ldA, stI, stA, inc, gtF, ptF, ldX, stX, ldR, ldL, stL, dp1, dp2, Tm, kS0, kS1, kS2, kS3, kS4, kS5, kS6, kS7, kS8, kS9, kS10, kS11, kS12, kS13, kS14, kS15, kS16, kS17, kS18, kS19, kS20, kS21, kS22, kS23, kS24, kS25, kS26, kS27, kS28, kS30, kS31, kS32, kS33, kS34, kS35, kS36, kS37, kS38, kS39, kS40, kS41, kS42, kS43, kS51, kS52, kS53, List.getElem?_cons_zero, List.getElem?_cons_succ, List.set_cons_zero, List.set_cons_succ, List.length_cons, List.length_nil, List.drop_succ_cons, List.drop_zero, List.cons_append, List.nil_append, Option.toList_some, Option.toList_none, cz, ci2, true_and, and_true, and_self, true_or, or_true, nI_1, Nat.reduceAdd, Nat.reduceLT]
  have loop : ∀ w, w ≤ 3 → ∀ (Y : XT) (z6 : AV), Fr [38, 39, 40, 41] X Y → (∀ k, k < w → M5M X c bs nn i t k = M5M X c bs nn j u k) → ∃ X', Ev sc (d + 8) 129 3 [vR 30 0 0, vI (nI i), vI (nI j), vI (nI (bs i + t)), vI (nI (bs j + u)), vI (nI w), z6] [] Y (.inl (some (.inl (bI (betB (M5M X c bs nn i t) (M5M X c bs nn j u) 5 = true))))) X' 0 ∧ Fr [38, 39, 40, 41] X X' := by
    apply loop_up
    · intro Y z6 hf hag
      refine ⟨Y, ?_, hf⟩
      refine ev_seg rfl ?_
      simp only [TE, sxs, sx, ldI, ldA, stI, stA, inc, gtF, ptF, ldX, stX, ldR, ldL, stL, dp1, dp2, Tm, kS0, kS1, kS2, kS3, kS4, kS5, kS6, kS7, kS8, kS9, kS10, kS11, kS12, kS13, kS14, kS15, kS16, kS17, kS18, kS19, kS20, kS21, kS22, kS23, kS24, kS25, kS26, kS27, kS28, kS30, kS31, kS32, kS33, kS34, kS35, kS36, kS37, kS38, kS39, kS40, kS41, kS42, kS43, kS51, kS52, kS53, List.getElem?_cons_zero, List.getElem?_cons_succ, List.set_cons_zero, List.set_cons_succ, List.length_cons, List.length_nil, List.drop_succ_cons, List.drop_zero, List.cons_append, List.nil_append, Option.toList_some, Option.toList_none, cz, ci2, true_and, and_true, and_self, true_or, or_true, nI_1, Nat.reduceAdd, Nat.reduceLT]
      refine ⟨fun _ => tail _ _ hf hag, fun w => absurd (by decide) w⟩
    · intro w hw ih Y z6 hf hag
      obtain ⟨Y1, a1, a2⟩ := s_MthirdSum (sc := sc) (d := d) (fA hf) hi (t := t) (w := w) ht (by rw [fP i hf]; exact hpt) hw
      have f1 := hf.tr a2
      obtain ⟨Y2, b1, b2⟩ := s_MthirdSum (sc := sc) (d := d) (fA f1) hj (t := u) (w := w) hu (by rw [fP j f1]; exact hpu) hw
      have f2 := f1.tr b2
      rw [fT i hf] at a1
      rw [fT j f1] at b1
      obtain ⟨x, x1, x2, x3⟩ := TSM_bd hA (w := w) hi ht
      obtain ⟨y, y1, y2, y3⟩ := TSM_bd hA (w := w) hj hu
      have km : ∀ (i t : Nat), M5M X c bs nn i t w = TSM X c bs nn i t w := fun i t => if_pos hw
      have hD : DIF (TSM X c bs nn i t w - TSM X c bs nn j u w) (M5M X c bs nn i t w) (M5M X c bs nn j u w) := DIF.mk (x := x) (y := y) (by rw [km, x1]) (by rw [km, y1]) (by omega) (by omega) (w := x - y) (by rw [x1, y1, ← Int32.ofInt_sub]) (by omega) (by omega) (by omega)
      have pre : ∀ Z v, Ev sc (d + 8) 129 6 [vR 30 0 0, vI (nI i), vI (nI j), vI (nI (bs i + t)), vI (nI (bs j + u)), vI (nI w), z6] [vI (TSM X c bs nn j u w), vI (TSM X c bs nn i t w)] Y2 v Z 0 → Ev sc (d + 8) 129 3 [vR 30 0 0, vI (nI i), vI (nI j), vI (nI (bs i + t)), vI (nI (bs j + u)), vI (nI w), z6] [] Y v Z 0 := by
        intro Z v hn
        refine ev_seg rfl ?_
        simp only [TE, sxs, sx, ldI, ldA, stI, stA, inc, gtF, ptF, ldX, stX, ldR, ldL, stL, dp1, dp2, Tm, kS0, kS1, kS2, kS3, kS4, kS5, kS6, kS7, kS8, kS9, kS10, kS11, kS12, kS13, kS14, kS15, kS16, kS17, kS18, kS19, kS20, kS21, kS22, kS23, kS24, kS25, kS26, kS27, kS28, kS30, kS31, kS32, kS33, kS34, kS35, kS36, kS37, kS38, kS39, kS40, kS41, kS42, kS43, kS51, kS52, kS53, List.getElem?_cons_zero, List.getElem?_cons_succ, List.set_cons_zero, List.set_cons_succ, List.length_cons, List.length_nil, List.drop_succ_cons, List.drop_zero, List.cons_append, List.nil_append, Option.toList_some, Option.toList_none, cz, ci2, true_and, and_true, and_self, true_or, or_true, nI_1, Nat.reduceAdd, Nat.reduceLT]
        refine ⟨fun q => absurd q (nle (b := 3) hw (by decide)), fun _ => ?_⟩
        refine ev_seg rfl ?_
        simp only [TE, sxs, sx, ldI, ldA, stI, stA, inc, gtF, ptF, ldX, stX, ldR, ldL, stL, dp1, dp2, Tm, kS0, kS1, kS2, kS3, kS4, kS5, kS6, kS7, kS8, kS9, kS10, kS11, kS12, kS13, kS14, kS15, kS16, kS17, kS18, kS19, kS20, kS21, kS22, kS23, kS24, kS25, kS26, kS27, kS28, kS30, kS31, kS32, kS33, kS34, kS35, kS36, kS37, kS38, kS39, kS40, kS41, kS42, kS43, kS51, kS52, kS53, List.getElem?_cons_zero, List.getElem?_cons_succ, List.set_cons_zero, List.set_cons_succ, List.length_cons, List.length_nil, List.drop_succ_cons, List.drop_zero, List.cons_append, List.nil_append, Option.toList_some, Option.toList_none, cz, ci2, true_and, and_true, and_self, true_or, or_true, nI_1, Nat.reduceAdd, Nat.reduceLT]
        refine cv3 rfl rfl (by first | exact rfl | exact trivial) (a1) ?_
        refine ev_seg rfl ?_
        simp only [TE, sxs, sx, ldI, ldA, stI, stA, inc, gtF, ptF, ldX, stX, ldR, ldL, stL, dp1, dp2, Tm, kS0, kS1, kS2, kS3, kS4, kS5, kS6, kS7, kS8, kS9, kS10, kS11, kS12, kS13, kS14, kS15, kS16, kS17, kS18, kS19, kS20, kS21, kS22, kS23, kS24, kS25, kS26, kS27, kS28, kS30, kS31, kS32, kS33, kS34, kS35, kS36, kS37, kS38, kS39, kS40, kS41, kS42, kS43, kS51, kS52, kS53, List.getElem?_cons_zero, List.getElem?_cons_succ, List.set_cons_zero, List.set_cons_succ, List.length_cons, List.length_nil, List.drop_succ_cons, List.drop_zero, List.cons_append, List.nil_append, Option.toList_some, Option.toList_none, cz, ci2, true_and, and_true, and_self, true_or, or_true, nI_1, Nat.reduceAdd, Nat.reduceLT]
        refine cv3 rfl rfl (by first | exact rfl | exact trivial) (b1) ?_
        exact hn
      by_cases h0 : TSM X c bs nn i t w - TSM X c bs nn j u w = 0
      · obtain ⟨X', c1, c2⟩ := ih Y2 (vI (TSM X c bs nn i t w - TSM X c bs nn j u w)) f2 (fun k hk => by
          by_cases hkw : k = w
          · rw [hkw]; exact hD.1.mp h0
          · exact hag k (by omega))
        refine ⟨X', pre _ _ ?_, c2⟩
        refine ev_seg rfl ?_
        simp only [TE, sxs, sx, ldI, ldA, stI, stA, inc, gtF, ptF, ldX, stX, ldR, ldL, stL, dp1, dp2, Tm, kS0, kS1, kS2, kS3, kS4, kS5, kS6, kS7, kS8, kS9, kS10, kS11, kS12, kS13, kS14, kS15, kS16, kS17, kS18, kS19, kS20, kS21, kS22, kS23, kS24, kS25, kS26, kS27, kS28, kS30, kS31, kS32, kS33, kS34, kS35, kS36, kS37, kS38, kS39, kS40, kS41, kS42, kS43, kS51, kS52, kS53, List.getElem?_cons_zero, List.getElem?_cons_succ, List.set_cons_zero, List.set_cons_succ, List.length_cons, List.length_nil, List.drop_succ_cons, List.drop_zero, List.cons_append, List.nil_append, Option.toList_some, Option.toList_none, cz, ci2, true_and, and_true, and_self, true_or, or_true, nI_1, Nat.reduceAdd, Nat.reduceLT]
        refine ⟨fun _ => ?_, fun q => absurd h0 q⟩
        refine ev_seg rfl ?_
        simp only [TE, sxs, sx, ldI, ldA, stI, stA, inc, gtF, ptF, ldX, stX, ldR, ldL, stL, dp1, dp2, Tm, kS0, kS1, kS2, kS3, kS4, kS5, kS6, kS7, kS8, kS9, kS10, kS11, kS12, kS13, kS14, kS15, kS16, kS17, kS18, kS19, kS20, kS21, kS22, kS23, kS24, kS25, kS26, kS27, kS28, kS30, kS31, kS32, kS33, kS34, kS35, kS36, kS37, kS38, kS39, kS40, kS41, kS42, kS43, kS51, kS52, kS53, List.getElem?_cons_zero, List.getElem?_cons_succ, List.set_cons_zero, List.set_cons_succ, List.length_cons, List.length_nil, List.drop_succ_cons, List.drop_zero, List.cons_append, List.nil_append, Option.toList_some, Option.toList_none, cz, ci2, true_and, and_true, and_self, true_or, or_true, nI_1, Nat.reduceAdd, Nat.reduceLT]
        exact c1
      · refine ⟨Y2, pre _ _ ?_, f2⟩
        rw [betB_at (k := w) (by omega) hag hD h0]
        refine ev_seg rfl ?_
        simp only [TE, sxs, sx, ldI, ldA, stI, stA, inc, gtF, ptF, ldX, stX, ldR, ldL, stL, dp1, dp2, Tm, kS0, kS1, kS2, kS3, kS4, kS5, kS6, kS7, kS8, kS9, kS10, kS11, kS12, kS13, kS14, kS15, kS16, kS17, kS18, kS19, kS20, kS21, kS22, kS23, kS24, kS25, kS26, kS27, kS28, kS30, kS31, kS32, kS33, kS34, kS35, kS36, kS37, kS38, kS39, kS40, kS41, kS42, kS43, kS51, kS52, kS53, List.getElem?_cons_zero, List.getElem?_cons_succ, List.set_cons_zero, List.set_cons_succ, List.length_cons, List.length_nil, List.drop_succ_cons, List.drop_zero, List.cons_append, List.nil_append, Option.toList_some, Option.toList_none, cz, ci2, true_and, and_true, and_self, true_or, or_true, nI_1, Nat.reduceAdd, Nat.reduceLT]
        refine ⟨fun q => absurd q h0, fun _ => ?_⟩
        refine ev_seg rfl ?_
        simp only [TE, sxs, sx, ldI, ldA, stI, stA, inc, gtF, ptF, ldX, stX, ldR, ldL, stL, dp1, dp2, Tm, kS0, kS1, kS2, kS3, kS4, kS5, kS6, kS7, kS8, kS9, kS10, kS11, kS12, kS13, kS14, kS15, kS16, kS17, kS18, kS19, kS20, kS21, kS22, kS23, kS24, kS25, kS26, kS27, kS28, kS30, kS31, kS32, kS33, kS34, kS35, kS36, kS37, kS38, kS39, kS40, kS41, kS42, kS43, kS51, kS52, kS53, List.getElem?_cons_zero, List.getElem?_cons_succ, List.set_cons_zero, List.set_cons_succ, List.length_cons, List.length_nil, List.drop_succ_cons, List.drop_zero, List.cons_append, List.nil_append, Option.toList_some, Option.toList_none, cz, ci2, true_and, and_true, and_self, true_or, or_true, nI_1, Nat.reduceAdd, Nat.reduceLT]
        refine ⟨fun q => ?_, fun q => ?_⟩
        · rw [bI_f (by rw [decide_eq_true_eq]; exact fun q2 => q2 q)]
          refine ev_seg rfl ?_
          simp only [TE, sxs, sx, ldI, ldA, stI, stA, inc, gtF, ptF, ldX, stX, ldR, ldL, stL, dp1, dp2, Tm, kS0, kS1, kS2, kS3, kS4, kS5, kS6, kS7, kS8, kS9, kS10, kS11, kS12, kS13, kS14, kS15, kS16, kS17, kS18, kS19, kS20, kS21, kS22, kS23, kS24, kS25, kS26, kS27, kS28, kS30, kS31, kS32, kS33, kS34, kS35, kS36, kS37, kS38, kS39, kS40, kS41, kS42, kS43, kS51, kS52, kS53, List.getElem?_cons_zero, List.getElem?_cons_succ, List.set_cons_zero, List.set_cons_succ, List.length_cons, List.length_nil, List.drop_succ_cons, List.drop_zero, List.cons_append, List.nil_append, Option.toList_some, Option.toList_none, cz, ci2, true_and, and_true, and_self, true_or, or_true, nI_1, Nat.reduceAdd, Nat.reduceLT]
          refine ev_seg rfl ?_
          simp only [TE, sxs, sx, ldI, ldA, stI, stA, inc, gtF, ptF, ldX, stX, ldR, ldL, stL, dp1, dp2, Tm, kS0, kS1, kS2, kS3, kS4, kS5, kS6, kS7, kS8, kS9, kS10, kS11, kS12, kS13, kS14, kS15, kS16, kS17, kS18, kS19, kS20, kS21, kS22, kS23, kS24, kS25, kS26, kS27, kS28, kS30, kS31, kS32, kS33, kS34, kS35, kS36, kS37, kS38, kS39, kS40, kS41, kS42, kS43, kS51, kS52, kS53, List.getElem?_cons_zero, List.getElem?_cons_succ, List.set_cons_zero, List.set_cons_succ, List.length_cons, List.length_nil, List.drop_succ_cons, List.drop_zero, List.cons_append, List.nil_append, Option.toList_some, Option.toList_none, cz, ci2, true_and, and_true, and_self, true_or, or_true, nI_1, Nat.reduceAdd, Nat.reduceLT]
        · rw [bI_t (by rw [decide_eq_true_eq]; exact q)]
          refine ev_seg rfl ?_
          simp only [TE, sxs, sx, ldI, ldA, stI, stA, inc, gtF, ptF, ldX, stX, ldR, ldL, stL, dp1, dp2, Tm, kS0, kS1, kS2, kS3, kS4, kS5, kS6, kS7, kS8, kS9, kS10, kS11, kS12, kS13, kS14, kS15, kS16, kS17, kS18, kS19, kS20, kS21, kS22, kS23, kS24, kS25, kS26, kS27, kS28, kS30, kS31, kS32, kS33, kS34, kS35, kS36, kS37, kS38, kS39, kS40, kS41, kS42, kS43, kS51, kS52, kS53, List.getElem?_cons_zero, List.getElem?_cons_succ, List.set_cons_zero, List.set_cons_succ, List.length_cons, List.length_nil, List.drop_succ_cons, List.drop_zero, List.cons_append, List.nil_append, Option.toList_some, Option.toList_none, cz, ci2, true_and, and_true, and_self, true_or, or_true, nI_1, Nat.reduceAdd, Nat.reduceLT]
          refine ev_seg rfl ?_
          simp only [TE, sxs, sx, ldI, ldA, stI, stA, inc, gtF, ptF, ldX, stX, ldR, ldL, stL, dp1, dp2, Tm, kS0, kS1, kS2, kS3, kS4, kS5, kS6, kS7, kS8, kS9, kS10, kS11, kS12, kS13, kS14, kS15, kS16, kS17, kS18, kS19, kS20, kS21, kS22, kS23, kS24, kS25, kS26, kS27, kS28, kS30, kS31, kS32, kS33, kS34, kS35, kS36, kS37, kS38, kS39, kS40, kS41, kS42, kS43, kS51, kS52, kS53, List.getElem?_cons_zero, List.getElem?_cons_succ, List.set_cons_zero, List.set_cons_succ, List.length_cons, List.length_nil, List.drop_succ_cons, List.drop_zero, List.cons_append, List.nil_append, Option.toList_some, Option.toList_none, cz, ci2, true_and, and_true, and_self, true_or, or_true, nI_1, Nat.reduceAdd, Nat.reduceLT]
  obtain ⟨X1, a1, a2⟩ := s_MteamOn (sc := sc) (d := d + 1) (hA.2 i hi).1 (hA.2 i hi).2 (t := t) (p := 2) ht hpt
  obtain ⟨X2, b1, b2⟩ := s_MteamOn (sc := sc) (d := d + 1) ((fA a2).2 j hj).1 ((fA a2).2 j hj).2 (t := u) (p := 2) hu (by rw [fP j a2]; exact hpu)
  obtain ⟨X', c1, c2⟩ := loop 0 (Nat.zero_le _) X2 av0 (a2.tr b2) (fun k hk => absurd hk (by omega))
  refine ⟨X', ?_, c2⟩
  rw [en129]
  refine ev_seg rfl ?_
  simp only [TE, sxs, sx, ldI, ldA, stI, stA, inc, gtF, ptF, ldX, stX, ldR, ldL, stL, dp1, dp2, Tm, kS0, kS1, kS2, kS3, kS4, kS5, kS6, kS7, kS8, kS9, kS10, kS11, kS12, kS13, kS14, kS15, kS16, kS17, kS18, kS19, kS20, kS21, kS22, kS23, kS24, kS25, kS26, kS27, kS28, kS30, kS31, kS32, kS33, kS34, kS35, kS36, kS37, kS38, kS39, kS40, kS41, kS42, kS43, kS51, kS52, kS53, List.getElem?_cons_zero, List.getElem?_cons_succ, List.set_cons_zero, List.set_cons_succ, List.length_cons, List.length_nil, List.drop_succ_cons, List.drop_zero, List.cons_append, List.nil_append, Option.toList_some, Option.toList_none, cz, ci2, true_and, and_true, and_self, true_or, or_true, nI_1, Nat.reduceAdd, Nat.reduceLT]
  refine cv3 rfl rfl (by first | exact rfl | exact trivial) (a1) ?_
  refine ev_seg rfl ?_
  simp only [TE, sxs, sx, ldI, ldA, stI, stA, inc, gtF, ptF, ldX, stX, ldR, ldL, stL, dp1, dp2, Tm, kS0, kS1, kS2, kS3, kS4, kS5, kS6, kS7, kS8, kS9, kS10, kS11, kS12, kS13, kS14, kS15, kS16, kS17, kS18, kS19, kS20, kS21, kS22, kS23, kS24, kS25, kS26, kS27, kS28, kS30, kS31, kS32, kS33, kS34, kS35, kS36, kS37, kS38, kS39, kS40, kS41, kS42, kS43, kS51, kS52, kS53, List.getElem?_cons_zero, List.getElem?_cons_succ, List.set_cons_zero, List.set_cons_succ, List.length_cons, List.length_nil, List.drop_succ_cons, List.drop_zero, List.cons_append, List.nil_append, Option.toList_some, Option.toList_none, cz, ci2, true_and, and_true, and_self, true_or, or_true, nI_1, Nat.reduceAdd, Nat.reduceLT]
  refine cv3 rfl rfl (by first | exact rfl | exact trivial) (b1) ?_
  refine ev_seg rfl ?_
  simp only [TE, sxs, sx, ldI, ldA, stI, stA, inc, gtF, ptF, ldX, stX, ldR, ldL, stL, dp1, dp2, Tm, kS0, kS1, kS2, kS3, kS4, kS5, kS6, kS7, kS8, kS9, kS10, kS11, kS12, kS13, kS14, kS15, kS16, kS17, kS18, kS19, kS20, kS21, kS22, kS23, kS24, kS25, kS26, kS27, kS28, kS30, kS31, kS32, kS33, kS34, kS35, kS36, kS37, kS38, kS39, kS40, kS41, kS42, kS43, kS51, kS52, kS53, List.getElem?_cons_zero, List.getElem?_cons_succ, List.set_cons_zero, List.set_cons_succ, List.length_cons, List.length_nil, List.drop_succ_cons, List.drop_zero, List.cons_append, List.nil_append, Option.toList_some, Option.toList_none, cz, ci2, true_and, and_true, and_self, true_or, or_true, nI_1, Nat.reduceAdd, Nat.reduceLT]
  exact c1
theorem s_MrankOf (hA : MA X c bs nn) (hdj : ∀ i j t u, i < c → j < c → i ≠ j → t < nn i → u < nn j → bs i + t ≠ bs j + u) {i : Nat} (hi : i < c) {t : Nat → Nat} (ht : ∀ j, j < c → t j < nn j ∧ PTM X (bs j) (nn j) (t j) = 2) :
    ∃ X', Ev sc (d + 9) 130 0 (ent 130 [vR 30 0 0, vI (nI i)]) [] X (.inl (some (.inl (nI (ct (fun z => betB (M5M X c bs nn z (t z)) (M5M X c bs nn i (t i)) 5) c))))) X' 0 ∧ Fr [38, 39, 40, 41] X X' := by
  have hc := hA.1.1
  have fA : ∀ {Y : XT}, Fr [38, 39, 40, 41] X Y → MA Y c bs nn := fun hf => hA.fr hf (by decide) (by decide) (by decide) (by decide) (by decide) (by decide) (by decide) (by decide)
  have fP : ∀ {Y : XT} (k : Nat), Fr [38, 39, 40, 41] X Y → PTM Y (bs k) (nn k) = PTM X (bs k) (nn k) := fun k hf => PTM_fr hf (by decide) (by decide) (by decide) (by decide)
  have fM : ∀ {Y : XT} (k : Nat), Fr [38, 39, 40, 41] X Y → M5M Y c bs nn k = M5M X c bs nn k := fun k hf => by
    funext t q
    unfold M5M
    rw [TSM_fr hf (by decide) (by decide) (by decide) (by decide), caM_fr hf (by decide), loM_fr hf (by decide)]
  have loop : ∀ p, p ≤ c → ∀ Y : XT, Fr [38, 39, 40, 41] X Y → ∃ X', Ev sc (d + 9) 130 1 [vR 30 0 0, vI (nI i), vI (nI (ct (fun z => betB (M5M X c bs nn z (t z)) (M5M X c bs nn i (t i)) 5) p)), vI (nI p)] [] Y (.inl (some (.inl (nI (ct (fun z => betB (M5M X c bs nn z (t z)) (M5M X c bs nn i (t i)) 5) c))))) X' 0 ∧ Fr [38, 39, 40, 41] X X' := by
    apply loop_up
    · intro Y hf
      refine ⟨Y, ?_, hf⟩
      refine ev_seg rfl ?_
      simp only [TE, sxs, sx, ldI, ldA, stI, stA, inc, gtF, ptF, ldX, stX, ldR, ldL, stL, dp1, dp2, Tm, kS0, kS1, kS2, kS3, kS4, kS5, kS6, kS7, kS8, kS9, kS10, kS11, kS12, kS13, kS14, kS15, kS16, kS17, kS18, kS19, kS20, kS21, kS22, kS23, kS24, kS25, kS26, kS27, kS28, kS30, kS31, kS32, kS33, kS34, kS35, kS36, kS37, kS38, kS39, kS40, kS41, kS42, kS43, kS51, kS52, kS53, List.getElem?_cons_zero, List.getElem?_cons_succ, List.set_cons_zero, List.set_cons_succ, List.length_cons, List.length_nil, List.drop_succ_cons, List.drop_zero, List.cons_append, List.nil_append, Option.toList_some, Option.toList_none, cz, ci2, true_and, and_true, and_self, true_or, or_true, nI_1, Nat.reduceAdd, Nat.reduceLT, (fA hf).1.2]
      refine ⟨fun _ => ?_, fun w => absurd (nleI (Nat.le_refl _) (by omega)) w⟩
      refine ev_seg rfl ?_
      simp only [TE, sxs, sx, ldI, ldA, stI, stA, inc, gtF, ptF, ldX, stX, ldR, ldL, stL, dp1, dp2, Tm, kS0, kS1, kS2, kS3, kS4, kS5, kS6, kS7, kS8, kS9, kS10, kS11, kS12, kS13, kS14, kS15, kS16, kS17, kS18, kS19, kS20, kS21, kS22, kS23, kS24, kS25, kS26, kS27, kS28, kS30, kS31, kS32, kS33, kS34, kS35, kS36, kS37, kS38, kS39, kS40, kS41, kS42, kS43, kS51, kS52, kS53, List.getElem?_cons_zero, List.getElem?_cons_succ, List.set_cons_zero, List.set_cons_succ, List.length_cons, List.length_nil, List.drop_succ_cons, List.drop_zero, List.cons_append, List.nil_append, Option.toList_some, Option.toList_none, cz, ci2, true_and, and_true, and_self, true_or, or_true, nI_1, Nat.reduceAdd, Nat.reduceLT]
    · intro p hp ih Y hf
      have skip : ∀ {Y2 : XT}, betB (M5M X c bs nn p (t p)) (M5M X c bs nn i (t i)) 5 = false → Fr [38, 39, 40, 41] X Y2 → ∃ X', Ev sc (d + 9) 130 6 [vR 30 0 0, vI (nI i), vI (nI (ct (fun z => betB (M5M X c bs nn z (t z)) (M5M X c bs nn i (t i)) 5) p)), vI (nI p)] [vI (nI (ct (fun z => betB (M5M X c bs nn z (t z)) (M5M X c bs nn i (t i)) 5) p))] Y2 (.inl (some (.inl (nI (ct (fun z => betB (M5M X c bs nn z (t z)) (M5M X c bs nn i (t i)) 5) c))))) X' 0 ∧ Fr [38, 39, 40, 41] X X' := by
        intro Y2 hb f2
        have e1 : ct (fun z => betB (M5M X c bs nn z (t z)) (M5M X c bs nn i (t i)) 5) (p + 1) = ct (fun z => betB (M5M X c bs nn z (t z)) (M5M X c bs nn i (t i)) 5) p := by
          rw [ct, if_neg (by rw [hb]; decide), Nat.add_zero]
        rw [e1] at ih
        obtain ⟨X', c1, c2⟩ := ih Y2 f2
        refine ⟨X', ?_, c2⟩
        refine ev_seg rfl ?_
        simp only [TE, sxs, sx, ldI, ldA, stI, stA, inc, gtF, ptF, ldX, stX, ldR, ldL, stL, dp1, dp2, Tm, kS0, kS1, kS2, kS3, kS4, kS5, kS6, kS7, kS8, kS9, kS10, kS11, kS12, kS13, kS14, kS15, kS16, kS17, kS18, kS19, kS20, kS21, kS22, kS23, kS24, kS25, kS26, kS27, kS28, kS30, kS31, kS32, kS33, kS34, kS35, kS36, kS37, kS38, kS39, kS40, kS41, kS42, kS43, kS51, kS52, kS53, List.getElem?_cons_zero, List.getElem?_cons_succ, List.set_cons_zero, List.set_cons_succ, List.length_cons, List.length_nil, List.drop_succ_cons, List.drop_zero, List.cons_append, List.nil_append, Option.toList_some, Option.toList_none, cz, ci2, true_and, and_true, and_self, true_or, or_true, nI_1, Nat.reduceAdd, Nat.reduceLT]
        refine ev_seg rfl ?_
        simp only [TE, sxs, sx, ldI, ldA, stI, stA, inc, gtF, ptF, ldX, stX, ldR, ldL, stL, dp1, dp2, Tm, kS0, kS1, kS2, kS3, kS4, kS5, kS6, kS7, kS8, kS9, kS10, kS11, kS12, kS13, kS14, kS15, kS16, kS17, kS18, kS19, kS20, kS21, kS22, kS23, kS24, kS25, kS26, kS27, kS28, kS30, kS31, kS32, kS33, kS34, kS35, kS36, kS37, kS38, kS39, kS40, kS41, kS42, kS43, kS51, kS52, kS53, List.getElem?_cons_zero, List.getElem?_cons_succ, List.set_cons_zero, List.set_cons_succ, List.length_cons, List.length_nil, List.drop_succ_cons, List.drop_zero, List.cons_append, List.nil_append, Option.toList_some, Option.toList_none, cz, ci2, true_and, and_true, and_self, true_or, or_true, nI_1, Nat.reduceAdd, Nat.reduceLT, Int32.add_zero]
        exact c1
      by_cases hpi : p = i
      · obtain ⟨X', c1, c2⟩ := skip (Y2 := Y) (by rw [hpi]; exact betB_no (bet_irr _ _)) hf
        refine ⟨X', ?_, c2⟩
        refine ev_seg rfl ?_
        simp only [TE, sxs, sx, ldI, ldA, stI, stA, inc, gtF, ptF, ldX, stX, ldR, ldL, stL, dp1, dp2, Tm, kS0, kS1, kS2, kS3, kS4, kS5, kS6, kS7, kS8, kS9, kS10, kS11, kS12, kS13, kS14, kS15, kS16, kS17, kS18, kS19, kS20, kS21, kS22, kS23, kS24, kS25, kS26, kS27, kS28, kS30, kS31, kS32, kS33, kS34, kS35, kS36, kS37, kS38, kS39, kS40, kS41, kS42, kS43, kS51, kS52, kS53, List.getElem?_cons_zero, List.getElem?_cons_succ, List.set_cons_zero, List.set_cons_succ, List.length_cons, List.length_nil, List.drop_succ_cons, List.drop_zero, List.cons_append, List.nil_append, Option.toList_some, Option.toList_none, cz, ci2, true_and, and_true, and_self, true_or, or_true, nI_1, Nat.reduceAdd, Nat.reduceLT, (fA hf).1.2]
        refine ⟨fun w => absurd w (nle hp (by omega)), fun _ => ?_⟩
        refine ev_seg rfl ?_
        simp only [TE, sxs, sx, ldI, ldA, stI, stA, inc, gtF, ptF, ldX, stX, ldR, ldL, stL, dp1, dp2, Tm, kS0, kS1, kS2, kS3, kS4, kS5, kS6, kS7, kS8, kS9, kS10, kS11, kS12, kS13, kS14, kS15, kS16, kS17, kS18, kS19, kS20, kS21, kS22, kS23, kS24, kS25, kS26, kS27, kS28, kS30, kS31, kS32, kS33, kS34, kS35, kS36, kS37, kS38, kS39, kS40, kS41, kS42, kS43, kS51, kS52, kS53, List.getElem?_cons_zero, List.getElem?_cons_succ, List.set_cons_zero, List.set_cons_succ, List.length_cons, List.length_nil, List.drop_succ_cons, List.drop_zero, List.cons_append, List.nil_append, Option.toList_some, Option.toList_none, cz, ci2, true_and, and_true, and_self, true_or, or_true, nI_1, Nat.reduceAdd, Nat.reduceLT]
        refine ⟨fun _ => c1, fun w => absurd (by rw [hpi]) w⟩
      · obtain ⟨Y2, b1, b2⟩ := s_MisBetter (sc := sc) (d := d) (fA hf) hp hi (ht p hp).1 (ht i hi).1 (by rw [fP p hf]; exact (ht p hp).2) (by rw [fP i hf]; exact (ht i hi).2) (hdj p i _ _ hp hi hpi (ht p hp).1 (ht i hi).1)
        rw [fM p hf, fM i hf] at b1
        have f2 := hf.tr b2
        have pre : ∀ v Z, Ev sc (d + 9) 130 4 [vR 30 0 0, vI (nI i), vI (nI (ct (fun z => betB (M5M X c bs nn z (t z)) (M5M X c bs nn i (t i)) 5) p)), vI (nI p)] [vI (bI (betB (M5M X c bs nn p (t p)) (M5M X c bs nn i (t i)) 5 = true)), vI (nI (ct (fun z => betB (M5M X c bs nn z (t z)) (M5M X c bs nn i (t i)) 5) p))] Y2 v Z 0 → Ev sc (d + 9) 130 1 [vR 30 0 0, vI (nI i), vI (nI (ct (fun z => betB (M5M X c bs nn z (t z)) (M5M X c bs nn i (t i)) 5) p)), vI (nI p)] [] Y v Z 0 := by
          intro v Z hn
          refine ev_seg rfl ?_
          simp only [TE, sxs, sx, ldI, ldA, stI, stA, inc, gtF, ptF, ldX, stX, ldR, ldL, stL, dp1, dp2, Tm, kS0, kS1, kS2, kS3, kS4, kS5, kS6, kS7, kS8, kS9, kS10, kS11, kS12, kS13, kS14, kS15, kS16, kS17, kS18, kS19, kS20, kS21, kS22, kS23, kS24, kS25, kS26, kS27, kS28, kS30, kS31, kS32, kS33, kS34, kS35, kS36, kS37, kS38, kS39, kS40, kS41, kS42, kS43, kS51, kS52, kS53, List.getElem?_cons_zero, List.getElem?_cons_succ, List.set_cons_zero, List.set_cons_succ, List.length_cons, List.length_nil, List.drop_succ_cons, List.drop_zero, List.cons_append, List.nil_append, Option.toList_some, Option.toList_none, cz, ci2, true_and, and_true, and_self, true_or, or_true, nI_1, Nat.reduceAdd, Nat.reduceLT, (fA hf).1.2]
          refine ⟨fun w => absurd w (nle hp (by omega)), fun _ => ?_⟩
          refine ev_seg rfl ?_
          simp only [TE, sxs, sx, ldI, ldA, stI, stA, inc, gtF, ptF, ldX, stX, ldR, ldL, stL, dp1, dp2, Tm, kS0, kS1, kS2, kS3, kS4, kS5, kS6, kS7, kS8, kS9, kS10, kS11, kS12, kS13, kS14, kS15, kS16, kS17, kS18, kS19, kS20, kS21, kS22, kS23, kS24, kS25, kS26, kS27, kS28, kS30, kS31, kS32, kS33, kS34, kS35, kS36, kS37, kS38, kS39, kS40, kS41, kS42, kS43, kS51, kS52, kS53, List.getElem?_cons_zero, List.getElem?_cons_succ, List.set_cons_zero, List.set_cons_succ, List.length_cons, List.length_nil, List.drop_succ_cons, List.drop_zero, List.cons_append, List.nil_append, Option.toList_some, Option.toList_none, cz, ci2, true_and, and_true, and_self, true_or, or_true, nI_1, Nat.reduceAdd, Nat.reduceLT]
          refine ⟨fun w => absurd (nI_inj (by omega) (by omega) w) hpi, fun _ => ?_⟩
          refine ev_seg rfl ?_
          simp only [TE, sxs, sx, ldI, ldA, stI, stA, inc, gtF, ptF, ldX, stX, ldR, ldL, stL, dp1, dp2, Tm, kS0, kS1, kS2, kS3, kS4, kS5, kS6, kS7, kS8, kS9, kS10, kS11, kS12, kS13, kS14, kS15, kS16, kS17, kS18, kS19, kS20, kS21, kS22, kS23, kS24, kS25, kS26, kS27, kS28, kS30, kS31, kS32, kS33, kS34, kS35, kS36, kS37, kS38, kS39, kS40, kS41, kS42, kS43, kS51, kS52, kS53, List.getElem?_cons_zero, List.getElem?_cons_succ, List.set_cons_zero, List.set_cons_succ, List.length_cons, List.length_nil, List.drop_succ_cons, List.drop_zero, List.cons_append, List.nil_append, Option.toList_some, Option.toList_none, cz, ci2, true_and, and_true, and_self, true_or, or_true, nI_1, Nat.reduceAdd, Nat.reduceLT]
          refine cv3 rfl rfl (by first | exact rfl | exact trivial) (b1) ?_
          exact hn
        cases hb : betB (M5M X c bs nn p (t p)) (M5M X c bs nn i (t i)) 5 with
        | true =>
          have e1 : ct (fun z => betB (M5M X c bs nn z (t z)) (M5M X c bs nn i (t i)) 5) (p + 1) = ct (fun z => betB (M5M X c bs nn z (t z)) (M5M X c bs nn i (t i)) 5) p + 1 := by
            rw [ct, if_pos hb]
          rw [e1] at ih
          obtain ⟨X', c1, c2⟩ := ih Y2 f2
          refine ⟨X', pre _ _ ?_, c2⟩
          rw [hb, bI_t (p := true = true) rfl]
          refine ev_seg rfl ?_
          simp only [TE, sxs, sx, ldI, ldA, stI, stA, inc, gtF, ptF, ldX, stX, ldR, ldL, stL, dp1, dp2, Tm, kS0, kS1, kS2, kS3, kS4, kS5, kS6, kS7, kS8, kS9, kS10, kS11, kS12, kS13, kS14, kS15, kS16, kS17, kS18, kS19, kS20, kS21, kS22, kS23, kS24, kS25, kS26, kS27, kS28, kS30, kS31, kS32, kS33, kS34, kS35, kS36, kS37, kS38, kS39, kS40, kS41, kS42, kS43, kS51, kS52, kS53, List.getElem?_cons_zero, List.getElem?_cons_succ, List.set_cons_zero, List.set_cons_succ, List.length_cons, List.length_nil, List.drop_succ_cons, List.drop_zero, List.cons_append, List.nil_append, Option.toList_some, Option.toList_none, cz, ci2, true_and, and_true, and_self, true_or, or_true, nI_1, Nat.reduceAdd, Nat.reduceLT]
          refine ⟨fun w => absurd w (by decide), fun _ => ?_⟩
          refine ev_seg rfl ?_
          simp only [TE, sxs, sx, ldI, ldA, stI, stA, inc, gtF, ptF, ldX, stX, ldR, ldL, stL, dp1, dp2, Tm, kS0, kS1, kS2, kS3, kS4, kS5, kS6, kS7, kS8, kS9, kS10, kS11, kS12, kS13, kS14, kS15, kS16, kS17, kS18, kS19, kS20, kS21, kS22, kS23, kS24, kS25, kS26, kS27, kS28, kS30, kS31, kS32, kS33, kS34, kS35, kS36, kS37, kS38, kS39, kS40, kS41, kS42, kS43, kS51, kS52, kS53, List.getElem?_cons_zero, List.getElem?_cons_succ, List.set_cons_zero, List.set_cons_succ, List.length_cons, List.length_nil, List.drop_succ_cons, List.drop_zero, List.cons_append, List.nil_append, Option.toList_some, Option.toList_none, cz, ci2, true_and, and_true, and_self, true_or, or_true, nI_1, Nat.reduceAdd, Nat.reduceLT]
          refine ev_seg rfl ?_
          simp only [TE, sxs, sx, ldI, ldA, stI, stA, inc, gtF, ptF, ldX, stX, ldR, ldL, stL, dp1, dp2, Tm, kS0, kS1, kS2, kS3, kS4, kS5, kS6, kS7, kS8, kS9, kS10, kS11, kS12, kS13, kS14, kS15, kS16, kS17, kS18, kS19, kS20, kS21, kS22, kS23, kS24, kS25, kS26, kS27, kS28, kS30, kS31, kS32, kS33, kS34, kS35, kS36, kS37, kS38, kS39, kS40, kS41, kS42, kS43, kS51, kS52, kS53, List.getElem?_cons_zero, List.getElem?_cons_succ, List.set_cons_zero, List.set_cons_succ, List.length_cons, List.length_nil, List.drop_succ_cons, List.drop_zero, List.cons_append, List.nil_append, Option.toList_some, Option.toList_none, cz, ci2, true_and, and_true, and_self, true_or, or_true, nI_1, Nat.reduceAdd, Nat.reduceLT]
          exact c1
        | false =>
          obtain ⟨X', c1, c2⟩ := skip (Y2 := Y2) hb f2
          refine ⟨X', pre _ _ ?_, c2⟩
          rw [hb, bI_f (p := false = true) (by decide)]
          refine ev_seg rfl ?_
          simp only [TE, sxs, sx, ldI, ldA, stI, stA, inc, gtF, ptF, ldX, stX, ldR, ldL, stL, dp1, dp2, Tm, kS0, kS1, kS2, kS3, kS4, kS5, kS6, kS7, kS8, kS9, kS10, kS11, kS12, kS13, kS14, kS15, kS16, kS17, kS18, kS19, kS20, kS21, kS22, kS23, kS24, kS25, kS26, kS27, kS28, kS30, kS31, kS32, kS33, kS34, kS35, kS36, kS37, kS38, kS39, kS40, kS41, kS42, kS43, kS51, kS52, kS53, List.getElem?_cons_zero, List.getElem?_cons_succ, List.set_cons_zero, List.set_cons_succ, List.length_cons, List.length_nil, List.drop_succ_cons, List.drop_zero, List.cons_append, List.nil_append, Option.toList_some, Option.toList_none, cz, ci2, true_and, and_true, and_self, true_or, or_true, nI_1, Nat.reduceAdd, Nat.reduceLT]
          refine ⟨fun _ => c1, fun w => absurd trivial w⟩
  obtain ⟨X', c1, c2⟩ := loop 0 (Nat.zero_le _) X (Fr.rf _ _)
  refine ⟨X', ?_, c2⟩
  rw [en130]
  refine ev_seg rfl ?_
  simp only [TE, sxs, sx, ldI, ldA, stI, stA, inc, gtF, ptF, ldX, stX, ldR, ldL, stL, dp1, dp2, Tm, kS0, kS1, kS2, kS3, kS4, kS5, kS6, kS7, kS8, kS9, kS10, kS11, kS12, kS13, kS14, kS15, kS16, kS17, kS18, kS19, kS20, kS21, kS22, kS23, kS24, kS25, kS26, kS27, kS28, kS30, kS31, kS32, kS33, kS34, kS35, kS36, kS37, kS38, kS39, kS40, kS41, kS42, kS43, kS51, kS52, kS53, List.getElem?_cons_zero, List.getElem?_cons_succ, List.set_cons_zero, List.set_cons_succ, List.length_cons, List.length_nil, List.drop_succ_cons, List.drop_zero, List.cons_append, List.nil_append, Option.toList_some, Option.toList_none, cz, ci2, true_and, and_true, and_self, true_or, or_true, nI_1, Nat.reduceAdd, Nat.reduceLT]
  exact c1
end Mbt
