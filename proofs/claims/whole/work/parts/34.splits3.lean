/-! the reference: a class is split -/
section Ms3
variable {sc : SC} {d : Nat} {X : XT} {i b n : Nat}
/-- whether all of a class are alike among the tied -/
def RR (S K : Nat → Nat → Int32) (n : Nat) (C : Nat → Bool) (k o : Nat) : Int32 := if o ≠ k ∧ C k = true ∧ C o = true then (if ALb S n C = true then sgR (K k) (K o) 4 4 else if fa (k3 S n C k) (k3 S n C o) 3 = 3 then 0 else sgR (k3 S n C k) (k3 S n C o) 3 1) else 0
def apN (S K : Nat → Nat → Int32) (n : Nat) (C : Nat → Bool) (ap : Nat → Nat → Nat) (k o : Nat) : Nat := if o ≠ k ∧ C k = true ∧ C o = true then (if ALb S n C = true then 4 + fa (K k) (K o) 4 else if fa (k3 S n C k) (k3 S n C o) 3 = 3 then ap k o else 1 + fa (k3 S n C k) (k3 S n C o) 3) else ap k o
def rkN (S K : Nat → Nat → Int32) (n : Nat) (C : Nat → Bool) (rk : Nat → Nat) (k : Nat) : Nat := rk k + ct (fun o => decide (RR S K n C k o < 0)) n
theorem apN_R {S K : Nat → Nat → Int32} {C : Nat → Bool} {ap : Nat → Nat → Nat} {k o : Nat} : nI (apN S K n C ap k o) = if RR S K n C k o = 0 then nI (ap k o) else if RR S K n C k o < 0 then -RR S K n C k o else RR S K n C k o := by
  unfold apN RR
  by_cases h1 : o ≠ k ∧ C k = true ∧ C o = true
  · rw [if_pos h1, if_pos h1]
    by_cases h2 : ALb S n C = true
    · rw [if_pos h2, if_pos h2]
      have h := sgR_lt (f := K k) (g := K o) (m := 4) (s := 4) (by decide) (by decide)
      rw [if_neg h.2.1, h.2.2]
    · rw [if_neg h2, if_neg h2]
      by_cases h3 : fa (k3 S n C k) (k3 S n C o) 3 = 3
      · rw [if_pos h3, if_pos h3, if_pos rfl]
      · rw [if_neg h3, if_neg h3]
        have h := sgR_lt (f := k3 S n C k) (g := k3 S n C o) (m := 3) (s := 1) (by decide) (by decide)
        rw [if_neg h.2.1, h.2.2]
  · rw [if_neg h1, if_neg h1, if_pos rfl]
theorem apN_lt {S K : Nat → Nat → Int32} {C : Nat → Bool} {ap : Nat → Nat → Nat} {k o : Nat} (h : ap k o < 100) : apN S K n C ap k o < 100 := by
  have f1 := fa_le (K k) (K o) 4
  have f2 := fa_le (k3 S n C k) (k3 S n C o) 3
  unfold apN
  split
  · split
    · omega
    · split <;> omega
  · exact h
theorem tied_bd {S : Nat → Nat → Int32} (hS : SY S n) (hB : SB S n) (h3 : n ≤ 5) (C : Nat → Bool) {a : Nat} (ha : a < n) {k : Nat} (hk : k < 3) : ∃ z, k3 S n C a k = zI z ∧ -1000 ≤ z ∧ z ≤ 1000 := by
  obtain ⟨⟨x, x1, x2⟩, ⟨y, y1, y2⟩, w, w1, w2⟩ := rs_bd hS hB h3 ha C
  rcases (show k = 0 ∨ k = 1 ∨ k = 2 by omega) with rfl | rfl | rfl
  · exact ⟨x, x1, by omega, by omega⟩
  · exact ⟨y, y1, by omega, by omega⟩
  · exact ⟨w, w1, by omega, by omega⟩
theorem s_Msplits (h : MS X i b n) (hV : MV X b n) {rk : Nat → Nat} {ap : Nat → Nat → Nat} (hK : RK X n rk ap) (hr9 : ∀ k, k < n → rk k < 50) {fr : Nat} (hf : fr < 100) :
    ∃ X', Ev sc (d + 4) 112 0 (ent 112 [vR 30 0 0, vI (nI i), vI (nI fr)]) [] X (.inl (some (.inl (bI (1 < ct (fun k => decide (rk k = fr)) n))))) X' 0 ∧ Fr [38, 39, 40, 41] X X' ∧
      RK X' n (rkN (scM X b) (KM X b n) n (fun k => decide (rk k = fr)) rk) (apN (scM X b) (KM X b n) n (fun k => decide (rk k = fr)) ap) := by
  have h0 := h
  obtain ⟨⟨h1, h2, h3, h4⟩, h5, h6, h7⟩ := h
  have hS := hV.1
  have hB := hV.2.1
  have vi : vp_in (nI i) 6 := vpn (by omega) (by decide)
  generalize hC : (fun k => decide (rk k = fr)) = C
  have hM := msk_lt C h3
  have hbit : ∀ j, j < n → ((nI (msk C n) >>> (nI j &&& 31)) &&& 1 = 1 ↔ C j = true) := fun j hj => by
    rw [m_bit2 _ hM j (by omega), msk_bit]
    exact ⟨fun w => w.2, fun w => ⟨hj, w⟩⟩
  have hct : ct C n < 100 := by have := ct_le C n; omega
  -- through loop 2
  obtain ⟨X2, a1, a2, a3⟩ := sp2 (sc := sc) (d := d + 1) (X := X) (M := msk C n) (m := n) (fr := fr) (o := .inl (some (.inl (bI (1 < ct C n))))) (z4 := vI (nI (ct C n))) (z6 := av0) (z7 := av0) (z8 := av0) (z9 := av0) h0 hS hM
  have hT : ∀ a k, a < n → k < 3 → tR X2 a k = k3 (scM X b) n C a k := by
    intro a k ha hk
    rw [a2 a k ha hk]
    unfold k3 fW3
    rcases (show k = 0 ∨ k = 1 ∨ k = 2 by omega) with rfl | rfl | rfl
    · exact rsC_msk
    · exact rsC_msk
    · exact rsC_msk
  have s2 := h0.fr a1 (by decide) (by decide) (by decide)
  have K2 := hK.fr a1 (by decide) (by decide)
  have hcomp : ∀ (k o : Nat) (X1 : XT) (v : OUT) (Z : XT) (z8 z9 : AV), k < n → o < n → Fr [39, 40] X2 X1 → (∀ z8, Ev sc (d + 4) 112 41 [vR 30 0 0, vI (nI i), vI (nI fr), vI (nI (msk C n)), vI (nI (ct C n)), vI (bI (ALb (scM X b) n C = true)), vI (nI k), vI (nI o), z8, z9] [vI (RR (scM X b) (KM X b n) n C k o)] X1 v Z 0) → Ev sc (d + 4) 112 30 [vR 30 0 0, vI (nI i), vI (nI fr), vI (nI (msk C n)), vI (nI (ct C n)), vI (bI (ALb (scM X b) n C = true)), vI (nI k), vI (nI o), z8, z9] [] X1 v Z 0 := by
    intro k o X1 v Z z8 z9 hk ho hX1 hn
    have f1 : Fr [39, 40, 41] X X1 := (a1.mo (by decide)).tr (hX1.mo (by decide))
    have s1 := h0.fr f1 (by decide) (by decide) (by decide)
    have V1 := hV.fr f1 (by decide) (by decide) (by decide) (by decide)
    have no : ¬ (o ≠ k ∧ C k = true ∧ C o = true) → Ev sc (d + 4) 112 34 [vR 30 0 0, vI (nI i), vI (nI fr), vI (nI (msk C n)), vI (nI (ct C n)), vI (bI (ALb (scM X b) n C = true)), vI (nI k), vI (nI o), z8, z9] [] X1 v Z 0 := by
      intro hno
      have hn := hn (vI 0)
      rw [RR, if_neg hno] at hn
      refine ev_seg rfl ?_
      simp only [TE, sxs, sx, ldI, ldA, stI, stA, inc, gtF, ptF, ldX, stX, ldR, ldL, stL, dp1, dp2, Tm, kS0, kS1, kS2, kS3, kS4, kS5, kS6, kS7, kS8, kS9, kS10, kS11, kS12, kS13, kS14, kS15, kS16, kS17, kS18, kS19, kS20, kS21, kS22, kS23, kS24, kS25, kS26, kS27, kS28, kS30, kS31, kS32, kS33, kS34, kS35, kS36, kS37, kS38, kS39, kS40, kS41, kS42, kS43, kS51, kS52, kS53, List.getElem?_cons_zero, List.getElem?_cons_succ, List.set_cons_zero, List.set_cons_succ, List.length_cons, List.length_nil, List.drop_succ_cons, List.drop_zero, List.cons_append, List.nil_append, Option.toList_some, Option.toList_none, cz, ci2, true_and, and_true, and_self, true_or, or_true, nI_1, Nat.reduceAdd, Nat.reduceLT]
      refine ev_seg rfl ?_
      simp only [TE, sxs, sx, ldI, ldA, stI, stA, inc, gtF, ptF, ldX, stX, ldR, ldL, stL, dp1, dp2, Tm, kS0, kS1, kS2, kS3, kS4, kS5, kS6, kS7, kS8, kS9, kS10, kS11, kS12, kS13, kS14, kS15, kS16, kS17, kS18, kS19, kS20, kS21, kS22, kS23, kS24, kS25, kS26, kS27, kS28, kS30, kS31, kS32, kS33, kS34, kS35, kS36, kS37, kS38, kS39, kS40, kS41, kS42, kS43, kS51, kS52, kS53, List.getElem?_cons_zero, List.getElem?_cons_succ, List.set_cons_zero, List.set_cons_succ, List.length_cons, List.length_nil, List.drop_succ_cons, List.drop_zero, List.cons_append, List.nil_append, Option.toList_some, Option.toList_none, cz, ci2, true_and, and_true, and_self, true_or, or_true, nI_1, Nat.reduceAdd, Nat.reduceLT]
      refine ⟨fun w => absurd trivial w, fun _ => ?_⟩
      refine ev_seg rfl ?_
      simp only [TE, sxs, sx, ldI, ldA, stI, stA, inc, gtF, ptF, ldX, stX, ldR, ldL, stL, dp1, dp2, Tm, kS0, kS1, kS2, kS3, kS4, kS5, kS6, kS7, kS8, kS9, kS10, kS11, kS12, kS13, kS14, kS15, kS16, kS17, kS18, kS19, kS20, kS21, kS22, kS23, kS24, kS25, kS26, kS27, kS28, kS30, kS31, kS32, kS33, kS34, kS35, kS36, kS37, kS38, kS39, kS40, kS41, kS42, kS43, kS51, kS52, kS53, List.getElem?_cons_zero, List.getElem?_cons_succ, List.set_cons_zero, List.set_cons_succ, List.length_cons, List.length_nil, List.drop_succ_cons, List.drop_zero, List.cons_append, List.nil_append, Option.toList_some, Option.toList_none, cz, ci2, true_and, and_true, and_self, true_or, or_true, nI_1, Nat.reduceAdd, Nat.reduceLT]
      exact hn
    refine ev_seg rfl ?_
    simp only [TE, sxs, sx, ldI, ldA, stI, stA, inc, gtF, ptF, ldX, stX, ldR, ldL, stL, dp1, dp2, Tm, kS0, kS1, kS2, kS3, kS4, kS5, kS6, kS7, kS8, kS9, kS10, kS11, kS12, kS13, kS14, kS15, kS16, kS17, kS18, kS19, kS20, kS21, kS22, kS23, kS24, kS25, kS26, kS27, kS28, kS30, kS31, kS32, kS33, kS34, kS35, kS36, kS37, kS38, kS39, kS40, kS41, kS42, kS43, kS51, kS52, kS53, List.getElem?_cons_zero, List.getElem?_cons_succ, List.set_cons_zero, List.set_cons_succ, List.length_cons, List.length_nil, List.drop_succ_cons, List.drop_zero, List.cons_append, List.nil_append, Option.toList_some, Option.toList_none, cz, ci2, true_and, and_true, and_self, true_or, or_true, nI_1, Nat.reduceAdd, Nat.reduceLT]
    refine ⟨fun w => no (fun q => q.1 (nI_inj (by omega) (by omega) w)), fun w0 => ?_⟩
    refine ev_seg rfl ?_
    simp only [TE, sxs, sx, ldI, ldA, stI, stA, inc, gtF, ptF, ldX, stX, ldR, ldL, stL, dp1, dp2, Tm, kS0, kS1, kS2, kS3, kS4, kS5, kS6, kS7, kS8, kS9, kS10, kS11, kS12, kS13, kS14, kS15, kS16, kS17, kS18, kS19, kS20, kS21, kS22, kS23, kS24, kS25, kS26, kS27, kS28, kS30, kS31, kS32, kS33, kS34, kS35, kS36, kS37, kS38, kS39, kS40, kS41, kS42, kS43, kS51, kS52, kS53, List.getElem?_cons_zero, List.getElem?_cons_succ, List.set_cons_zero, List.set_cons_succ, List.length_cons, List.length_nil, List.drop_succ_cons, List.drop_zero, List.cons_append, List.nil_append, Option.toList_some, Option.toList_none, cz, ci2, true_and, and_true, and_self, true_or, or_true, nI_1, Nat.reduceAdd, Nat.reduceLT]
    refine ⟨fun w => no (fun q => w ((hbit _ hk).mpr q.2.1)), fun w1 => ?_⟩
    refine ev_seg rfl ?_
    simp only [TE, sxs, sx, ldI, ldA, stI, stA, inc, gtF, ptF, ldX, stX, ldR, ldL, stL, dp1, dp2, Tm, kS0, kS1, kS2, kS3, kS4, kS5, kS6, kS7, kS8, kS9, kS10, kS11, kS12, kS13, kS14, kS15, kS16, kS17, kS18, kS19, kS20, kS21, kS22, kS23, kS24, kS25, kS26, kS27, kS28, kS30, kS31, kS32, kS33, kS34, kS35, kS36, kS37, kS38, kS39, kS40, kS41, kS42, kS43, kS51, kS52, kS53, List.getElem?_cons_zero, List.getElem?_cons_succ, List.set_cons_zero, List.set_cons_succ, List.length_cons, List.length_nil, List.drop_succ_cons, List.drop_zero, List.cons_append, List.nil_append, Option.toList_some, Option.toList_none, cz, ci2, true_and, and_true, and_self, true_or, or_true, nI_1, Nat.reduceAdd, Nat.reduceLT]
    refine ⟨fun w => no (fun q => w ((hbit _ ho).mpr q.2.2)), fun w2 => ?_⟩
    have hyes : o ≠ k ∧ C k = true ∧ C o = true := ⟨fun e => w0 (by rw [e]), (hbit _ hk).mp (Classical.not_not.mp w1), (hbit _ ho).mp (Classical.not_not.mp w2)⟩
    have hn := hn (vI 1)
    rw [RR, if_pos hyes] at hn
    refine ev_seg rfl ?_
    simp only [TE, sxs, sx, ldI, ldA, stI, stA, inc, gtF, ptF, ldX, stX, ldR, ldL, stL, dp1, dp2, Tm, kS0, kS1, kS2, kS3, kS4, kS5, kS6, kS7, kS8, kS9, kS10, kS11, kS12, kS13, kS14, kS15, kS16, kS17, kS18, kS19, kS20, kS21, kS22, kS23, kS24, kS25, kS26, kS27, kS28, kS30, kS31, kS32, kS33, kS34, kS35, kS36, kS37, kS38, kS39, kS40, kS41, kS42, kS43, kS51, kS52, kS53, List.getElem?_cons_zero, List.getElem?_cons_succ, List.set_cons_zero, List.set_cons_succ, List.length_cons, List.length_nil, List.drop_succ_cons, List.drop_zero, List.cons_append, List.nil_append, Option.toList_some, Option.toList_none, cz, ci2, true_and, and_true, and_self, true_or, or_true, nI_1, Nat.reduceAdd, Nat.reduceLT]
    refine ev_seg rfl ?_
    simp only [TE, sxs, sx, ldI, ldA, stI, stA, inc, gtF, ptF, ldX, stX, ldR, ldL, stL, dp1, dp2, Tm, kS0, kS1, kS2, kS3, kS4, kS5, kS6, kS7, kS8, kS9, kS10, kS11, kS12, kS13, kS14, kS15, kS16, kS17, kS18, kS19, kS20, kS21, kS22, kS23, kS24, kS25, kS26, kS27, kS28, kS30, kS31, kS32, kS33, kS34, kS35, kS36, kS37, kS38, kS39, kS40, kS41, kS42, kS43, kS51, kS52, kS53, List.getElem?_cons_zero, List.getElem?_cons_succ, List.set_cons_zero, List.set_cons_succ, List.length_cons, List.length_nil, List.drop_succ_cons, List.drop_zero, List.cons_append, List.nil_append, Option.toList_some, Option.toList_none, cz, ci2, true_and, and_true, and_self, true_or, or_true, nI_1, Nat.reduceAdd, Nat.reduceLT]
    refine ⟨fun _ => ?_, fun w => absurd (by decide) w⟩
    by_cases hal : ALb (scM X b) n C = true
    · rw [if_pos hal, bI_t hal] at hn
      rw [bI_t hal]
      have hfr := s_MfinalRule (sc := sc) (d := d) s1 V1 hk ho (fun e => hyes.1 e.symm)
      have eK : KM X1 b n = KM X b n := by
        funext a c
        unfold KM
        rw [scM_fr f1 (by decide), caM_fr f1 (by decide), loM_fr f1 (by decide)]
      rw [eK] at hfr
      refine ev_seg rfl ?_
      simp only [TE, sxs, sx, ldI, ldA, stI, stA, inc, gtF, ptF, ldX, stX, ldR, ldL, stL, dp1, dp2, Tm, kS0, kS1, kS2, kS3, kS4, kS5, kS6, kS7, kS8, kS9, kS10, kS11, kS12, kS13, kS14, kS15, kS16, kS17, kS18, kS19, kS20, kS21, kS22, kS23, kS24, kS25, kS26, kS27, kS28, kS30, kS31, kS32, kS33, kS34, kS35, kS36, kS37, kS38, kS39, kS40, kS41, kS42, kS43, kS51, kS52, kS53, List.getElem?_cons_zero, List.getElem?_cons_succ, List.set_cons_zero, List.set_cons_succ, List.length_cons, List.length_nil, List.drop_succ_cons, List.drop_zero, List.cons_append, List.nil_append, Option.toList_some, Option.toList_none, cz, ci2, true_and, and_true, and_self, true_or, or_true, nI_1, Nat.reduceAdd, Nat.reduceLT]
      refine ⟨fun w => absurd w (by decide), fun _ => ?_⟩
      refine ev_seg rfl ?_
      simp only [TE, sxs, sx, ldI, ldA, stI, stA, inc, gtF, ptF, ldX, stX, ldR, ldL, stL, dp1, dp2, Tm, kS0, kS1, kS2, kS3, kS4, kS5, kS6, kS7, kS8, kS9, kS10, kS11, kS12, kS13, kS14, kS15, kS16, kS17, kS18, kS19, kS20, kS21, kS22, kS23, kS24, kS25, kS26, kS27, kS28, kS30, kS31, kS32, kS33, kS34, kS35, kS36, kS37, kS38, kS39, kS40, kS41, kS42, kS43, kS51, kS52, kS53, List.getElem?_cons_zero, List.getElem?_cons_succ, List.set_cons_zero, List.set_cons_succ, List.length_cons, List.length_nil, List.drop_succ_cons, List.drop_zero, List.cons_append, List.nil_append, Option.toList_some, Option.toList_none, cz, ci2, true_and, and_true, and_self, true_or, or_true, nI_1, Nat.reduceAdd, Nat.reduceLT, s1.2.1, nI_ad]
      refine ⟨(by first | assumption | (and_intros <;> first | assumption | trivial | decide)), cv3 rfl rfl (by first | exact rfl | exact trivial) (hfr) ?_⟩
      refine ev_seg rfl ?_
      simp only [TE, sxs, sx, ldI, ldA, stI, stA, inc, gtF, ptF, ldX, stX, ldR, ldL, stL, dp1, dp2, Tm, kS0, kS1, kS2, kS3, kS4, kS5, kS6, kS7, kS8, kS9, kS10, kS11, kS12, kS13, kS14, kS15, kS16, kS17, kS18, kS19, kS20, kS21, kS22, kS23, kS24, kS25, kS26, kS27, kS28, kS30, kS31, kS32, kS33, kS34, kS35, kS36, kS37, kS38, kS39, kS40, kS41, kS42, kS43, kS51, kS52, kS53, List.getElem?_cons_zero, List.getElem?_cons_succ, List.set_cons_zero, List.set_cons_succ, List.length_cons, List.length_nil, List.drop_succ_cons, List.drop_zero, List.cons_append, List.nil_append, Option.toList_some, Option.toList_none, cz, ci2, true_and, and_true, and_self, true_or, or_true, nI_1, Nat.reduceAdd, Nat.reduceLT]
      exact hn
    · rw [if_neg hal, bI_f hal] at hn
      rw [bI_f hal]
      have t1 : ∀ a k, a < n → k < 3 → tR X1 a k = k3 (scM X b) n C a k := fun a k ha hk => by
        rw [← hT a k ha hk]
        exact hX1.at 41 (by decide) _ _ _
      have htr := s_MtiedRule (sc := sc) (d := d + 3) (X := X1) (a := k) (a' := o) (by omega) (by omega) (fun q hq => by
        rw [t1 _ q hk hq, t1 _ q ho hq]
        exact ⟨tied_bd hS hB h3 C hk hq, tied_bd hS hB h3 C ho hq⟩)
      have ef : fa (tR X1 k) (tR X1 o) 3 = fa (k3 (scM X b) n C k) (k3 (scM X b) n C o) 3 := fa_congr (fun q hq => t1 _ q hk hq) (fun q hq => t1 _ q ho hq)
      have es : sgR (tR X1 k) (tR X1 o) 3 1 = sgR (k3 (scM X b) n C k) (k3 (scM X b) n C o) 3 1 := by
        unfold sgR
        rw [ef, betB_congr (fun q hq => t1 _ q hk hq) (fun q hq => t1 _ q ho hq)]
      rw [ef, es] at htr
      refine ev_seg rfl ?_
      simp only [TE, sxs, sx, ldI, ldA, stI, stA, inc, gtF, ptF, ldX, stX, ldR, ldL, stL, dp1, dp2, Tm, kS0, kS1, kS2, kS3, kS4, kS5, kS6, kS7, kS8, kS9, kS10, kS11, kS12, kS13, kS14, kS15, kS16, kS17, kS18, kS19, kS20, kS21, kS22, kS23, kS24, kS25, kS26, kS27, kS28, kS30, kS31, kS32, kS33, kS34, kS35, kS36, kS37, kS38, kS39, kS40, kS41, kS42, kS43, kS51, kS52, kS53, List.getElem?_cons_zero, List.getElem?_cons_succ, List.set_cons_zero, List.set_cons_succ, List.length_cons, List.length_nil, List.drop_succ_cons, List.drop_zero, List.cons_append, List.nil_append, Option.toList_some, Option.toList_none, cz, ci2, true_and, and_true, and_self, true_or, or_true, nI_1, Nat.reduceAdd, Nat.reduceLT]
      refine ⟨fun _ => ?_, fun w => absurd trivial w⟩
      refine ev_seg rfl ?_
      simp only [TE, sxs, sx, ldI, ldA, stI, stA, inc, gtF, ptF, ldX, stX, ldR, ldL, stL, dp1, dp2, Tm, kS0, kS1, kS2, kS3, kS4, kS5, kS6, kS7, kS8, kS9, kS10, kS11, kS12, kS13, kS14, kS15, kS16, kS17, kS18, kS19, kS20, kS21, kS22, kS23, kS24, kS25, kS26, kS27, kS28, kS30, kS31, kS32, kS33, kS34, kS35, kS36, kS37, kS38, kS39, kS40, kS41, kS42, kS43, kS51, kS52, kS53, List.getElem?_cons_zero, List.getElem?_cons_succ, List.set_cons_zero, List.set_cons_succ, List.length_cons, List.length_nil, List.drop_succ_cons, List.drop_zero, List.cons_append, List.nil_append, Option.toList_some, Option.toList_none, cz, ci2, true_and, and_true, and_self, true_or, or_true, nI_1, Nat.reduceAdd, Nat.reduceLT]
      refine cv3 rfl rfl (by first | exact rfl | exact trivial) (htr) ?_
      exact hn
  obtain ⟨X3, b1, b2⟩ := sp4 (sc := sc) (d := d) (X := X2) (n := n) (R := RR (scM X b) (KM X b n) n C) (apn := apN (scM X b) (KM X b n) n C ap) (fr := fr) (set := vI (nI (msk C n))) (many := vI (nI (ct C n))) (al := vI (bI (ALb (scM X b) n C = true))) (m6 := vI (nI (n * n))) (v := .inl (some (.inl (bI (1 < ct C n))))) s2 K2 (fun _ _ _ _ => apN_R) hcomp
  have s3 := s2.fr b1.1 (by decide) (by decide) (by decide)
  obtain ⟨X4, c1, c2, c3⟩ := sp5 (sc := sc) (d := d + 4) (X := X3) (n := n) (nr := rkN (scM X b) (KM X b n) n C rk) (ap := apN (scM X b) (KM X b n) n C ap) (fr := fr) (set := vI (nI (msk C n))) (al := vI (bI (ALb (scM X b) n C = true))) (m6 := vI (nI n)) s3 (fun k hk => ⟨b1.2.1 k hk, by
    have h9 := hr9 k hk
    have := ct_le (fun o => decide (RR (scM X b) (KM X b n) n C k o < 0)) n
    unfold rkN
    omega⟩) (fun k o hk ho => ⟨by
    rw [b1.2.2.1 k o hk ho, if_pos (Or.inl hk)], apN_lt (hK.2 k o hk ho).2⟩) hct
  refine ⟨X4, ?_, (((a1.mo (by decide)).tr (b1.1.mo (by decide))).tr (c1.mo (by decide))), c2⟩
  rw [en112]
  refine ev_seg rfl ?_
  simp only [TE, sxs, sx, ldI, ldA, stI, stA, inc, gtF, ptF, ldX, stX, ldR, ldL, stL, dp1, dp2, Tm, kS0, kS1, kS2, kS3, kS4, kS5, kS6, kS7, kS8, kS9, kS10, kS11, kS12, kS13, kS14, kS15, kS16, kS17, kS18, kS19, kS20, kS21, kS22, kS23, kS24, kS25, kS26, kS27, kS28, kS30, kS31, kS32, kS33, kS34, kS35, kS36, kS37, kS38, kS39, kS40, kS41, kS42, kS43, kS51, kS52, kS53, List.getElem?_cons_zero, List.getElem?_cons_succ, List.set_cons_zero, List.set_cons_succ, List.length_cons, List.length_nil, List.drop_succ_cons, List.drop_zero, List.cons_append, List.nil_append, Option.toList_some, Option.toList_none, cz, ci2, true_and, and_true, and_self, true_or, or_true, nI_1, Nat.reduceAdd, Nat.reduceLT]
  subst hC
  refine sp1 h0 hK.1 hf ?_
  refine a3 X4 ?_
  refine Ev_d (d := d + 4) ?_ (Nat.le_refl _)
  refine sp3 (d := d + 3) s2 hS hB hT (fun z7 => ?_)
  exact b2 X4 c3 _ _ _
end Ms3
