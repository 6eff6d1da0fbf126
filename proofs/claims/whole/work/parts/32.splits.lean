/-! the reference: splitting a class -/
section Msp
variable {sc : SC} {d : Nat} {X : XT} {i b n : Nat}
def msk (C : Nat → Bool) : Nat → Nat
  | 0 => 0
  | k + 1 => if C k = true then msk C k ||| 2 ^ k else msk C k
theorem msk_lt (C : Nat → Bool) : ∀ {k}, k ≤ 5 → msk C k < 32
  | 0, _ => by rw [msk]; decide
  | k + 1, h => by
    have ih := msk_lt C (k := k) (by omega)
    rw [msk]
    split
    · exact (m_or _ ih k (by omega)).2
    · exact ih
theorem msk_bit (C : Nat → Bool) {j : Nat} : ∀ {k}, (msk C k).testBit j = true ↔ j < k ∧ C j = true
  | 0 => by simp [msk]
  | k + 1 => by
    have ih := msk_bit C (j := j) (k := k)
    rw [msk]
    by_cases h : C k = true
    · rw [if_pos h, Nat.testBit_or, Bool.or_eq_true, ih, Nat.testBit_two_pow, decide_eq_true_eq]
      constructor
      · rintro (⟨h1, h2⟩ | rfl)
        · exact ⟨by omega, h2⟩
        · exact ⟨by omega, h⟩
      · rintro ⟨h1, h2⟩
        by_cases hj : k = j
        · exact Or.inr hj
        · exact Or.inl ⟨by omega, h2⟩
    · rw [if_neg h, ih]
      constructor
      · rintro ⟨h1, h2⟩
        exact ⟨by omega, h2⟩
      · rintro ⟨h1, h2⟩
        refine ⟨?_, h2⟩
        by_cases hj : j = k
        · rw [hj] at h2; exact absurd h2 h
        · omega
theorem rsC_msk {S : Nat → Nat → Int32} {C : Nat → Bool} {f : Int32 → Int32 → Int32} {a : Nat} : rsC S n (fun j => (msk C n).testBit j) f a = rsC S n C f a := by
  apply rsC_congr
  intro j hj
  rw [Bool.eq_iff_iff, msk_bit]
  exact ⟨fun w => w.2, fun w => ⟨hj, w⟩⟩
/-- ranks and rules of the reference -/
def RK (X : XT) (n : Nat) (rk : Nat → Nat) (ap : Nat → Nat → Nat) : Prop := (∀ k, k < n → X.1 38 0 0 (nI k) = nI (rk k) ∧ rk k < 100) ∧ ∀ k o, k < n → o < n → X.1 40 0 0 (nI (5 * k + o)) = nI (ap k o) ∧ ap k o < 100
theorem RK.fr {K : List Nat} {X' : XT} {rk : Nat → Nat} {ap : Nat → Nat → Nat} (h : RK X n rk ap) (hf : Fr K X X') (h1 : 38 ∉ K) (h2 : 40 ∉ K) : RK X' n rk ap := ⟨fun k hk => by rw [hf.at 38 h1]; exact h.1 k hk, fun k o hk ho => by rw [hf.at 40 h2]; exact h.2 k o hk ho⟩
theorem sp1 (h : MS X i b n) {rk : Nat → Nat} (hR : ∀ k, k < n → X.1 38 0 0 (nI k) = nI (rk k) ∧ rk k < 100) {fr : Nat} (hf : fr < 100) {o : OUT} {Z : XT} {z6 z7 z8 z9 : AV}
    (hn : Ev sc d 112 9 [vR 30 0 0, vI (nI i), vI (nI fr), vI (nI (msk (fun k => decide (rk k = fr)) n)), vI (nI (ct (fun k => decide (rk k = fr)) n)), vI (nI n), z6, z7, z8, z9] [] X o Z 0) :
    Ev sc d 112 1 [vR 30 0 0, vI (nI i), vI (nI fr), vI 0, vI 0, vI 0, z6, z7, z8, z9] [] X o Z 0 := by
  obtain ⟨⟨h1, h2, h3, h4⟩, h5, h6, h7⟩ := h
  have vi : vp_in (nI i) 6 := vpn (by omega) (by decide)
  have loop : ∀ p, p ≤ n → Ev sc d 112 1 [vR 30 0 0, vI (nI i), vI (nI fr), vI (nI (msk (fun k => decide (rk k = fr)) p)), vI (nI (ct (fun k => decide (rk k = fr)) p)), vI (nI p), z6, z7, z8, z9] [] X o Z 0 := by
    apply loop_up
    · refine ev_seg rfl ?_
      simp only [TE, sxs, sx, ldI, ldA, stI, stA, inc, gtF, ptF, ldX, stX, ldR, ldL, stL, dp1, dp2, Tm, kS0, kS1, kS2, kS3, kS4, kS5, kS6, kS7, kS8, kS9, kS10, kS11, kS12, kS13, kS14, kS15, kS16, kS17, kS18, kS19, kS20, kS21, kS22, kS23, kS24, kS25, kS26, kS27, kS28, kS30, kS31, kS32, kS33, kS34, kS35, kS36, kS37, kS38, kS39, kS40, kS41, kS42, kS43, kS51, kS52, kS53, List.getElem?_cons_zero, List.getElem?_cons_succ, List.set_cons_zero, List.set_cons_succ, List.length_cons, List.length_nil, List.drop_succ_cons, List.drop_zero, List.cons_append, List.nil_append, Option.toList_some, Option.toList_none, cz, ci2, true_and, and_true, and_self, true_or, or_true, nI_1, Nat.reduceAdd, Nat.reduceLT, h6]
      exact ⟨(by first | assumption | (and_intros <;> first | assumption | trivial | decide)), fun _ => hn, fun w => absurd (nleI (Nat.le_refl _) (by omega)) w⟩
    · intro p hp ih
      have vp : vp_in (nI p) 5 := vpn (by omega) (by decide)
      obtain ⟨hr1, hr2⟩ := hR p hp
      refine ev_seg rfl ?_
      simp only [TE, sxs, sx, ldI, ldA, stI, stA, inc, gtF, ptF, ldX, stX, ldR, ldL, stL, dp1, dp2, Tm, kS0, kS1, kS2, kS3, kS4, kS5, kS6, kS7, kS8, kS9, kS10, kS11, kS12, kS13, kS14, kS15, kS16, kS17, kS18, kS19, kS20, kS21, kS22, kS23, kS24, kS25, kS26, kS27, kS28, kS30, kS31, kS32, kS33, kS34, kS35, kS36, kS37, kS38, kS39, kS40, kS41, kS42, kS43, kS51, kS52, kS53, List.getElem?_cons_zero, List.getElem?_cons_succ, List.set_cons_zero, List.set_cons_succ, List.length_cons, List.length_nil, List.drop_succ_cons, List.drop_zero, List.cons_append, List.nil_append, Option.toList_some, Option.toList_none, cz, ci2, true_and, and_true, and_self, true_or, or_true, nI_1, Nat.reduceAdd, Nat.reduceLT, h6]
      refine ⟨(by first | assumption | (and_intros <;> first | assumption | trivial | decide)), fun w => absurd w (nle hp (by omega)), fun _ => ?_⟩
      refine ev_seg rfl ?_
      simp only [TE, sxs, sx, ldI, ldA, stI, stA, inc, gtF, ptF, ldX, stX, ldR, ldL, stL, dp1, dp2, Tm, kS0, kS1, kS2, kS3, kS4, kS5, kS6, kS7, kS8, kS9, kS10, kS11, kS12, kS13, kS14, kS15, kS16, kS17, kS18, kS19, kS20, kS21, kS22, kS23, kS24, kS25, kS26, kS27, kS28, kS30, kS31, kS32, kS33, kS34, kS35, kS36, kS37, kS38, kS39, kS40, kS41, kS42, kS43, kS51, kS52, kS53, List.getElem?_cons_zero, List.getElem?_cons_succ, List.set_cons_zero, List.set_cons_succ, List.length_cons, List.length_nil, List.drop_succ_cons, List.drop_zero, List.cons_append, List.nil_append, Option.toList_some, Option.toList_none, cz, ci2, true_and, and_true, and_self, true_or, or_true, nI_1, Nat.reduceAdd, Nat.reduceLT, hr1]
      by_cases hc : rk p = fr
      · have e1 : msk (fun k => decide (rk k = fr)) (p + 1) = msk (fun k => decide (rk k = fr)) p ||| 2 ^ p := by
          rw [msk, if_pos (by rw [decide_eq_true_eq]; exact hc)]
        have e2 : ct (fun k => decide (rk k = fr)) (p + 1) = ct (fun k => decide (rk k = fr)) p + 1 := by
          rw [ct, if_pos (by rw [decide_eq_true_eq]; exact hc)]
        rw [e1, e2, ← (m_or _ (msk_lt _ (by omega)) p (by omega)).1] at ih
        refine ⟨(by first | assumption | (and_intros <;> first | assumption | trivial | decide)), fun w => absurd (by rw [hc]) w, fun _ => ?_⟩
        refine ev_seg rfl ?_
        simp only [TE, sxs, sx, ldI, ldA, stI, stA, inc, gtF, ptF, ldX, stX, ldR, ldL, stL, dp1, dp2, Tm, kS0, kS1, kS2, kS3, kS4, kS5, kS6, kS7, kS8, kS9, kS10, kS11, kS12, kS13, kS14, kS15, kS16, kS17, kS18, kS19, kS20, kS21, kS22, kS23, kS24, kS25, kS26, kS27, kS28, kS30, kS31, kS32, kS33, kS34, kS35, kS36, kS37, kS38, kS39, kS40, kS41, kS42, kS43, kS51, kS52, kS53, List.getElem?_cons_zero, List.getElem?_cons_succ, List.set_cons_zero, List.set_cons_succ, List.length_cons, List.length_nil, List.drop_succ_cons, List.drop_zero, List.cons_append, List.nil_append, Option.toList_some, Option.toList_none, cz, ci2, true_and, and_true, and_self, true_or, or_true, nI_1, Nat.reduceAdd, Nat.reduceLT]
        refine ev_seg rfl ?_
        simp only [TE, sxs, sx, ldI, ldA, stI, stA, inc, gtF, ptF, ldX, stX, ldR, ldL, stL, dp1, dp2, Tm, kS0, kS1, kS2, kS3, kS4, kS5, kS6, kS7, kS8, kS9, kS10, kS11, kS12, kS13, kS14, kS15, kS16, kS17, kS18, kS19, kS20, kS21, kS22, kS23, kS24, kS25, kS26, kS27, kS28, kS30, kS31, kS32, kS33, kS34, kS35, kS36, kS37, kS38, kS39, kS40, kS41, kS42, kS43, kS51, kS52, kS53, List.getElem?_cons_zero, List.getElem?_cons_succ, List.set_cons_zero, List.set_cons_succ, List.length_cons, List.length_nil, List.drop_succ_cons, List.drop_zero, List.cons_append, List.nil_append, Option.toList_some, Option.toList_none, cz, ci2, true_and, and_true, and_self, true_or, or_true, nI_1, Nat.reduceAdd, Nat.reduceLT, hr1]
        refine ⟨(by first | assumption | (and_intros <;> first | assumption | trivial | decide)), fun w => absurd (by rw [hc]) w, fun _ => ?_⟩
        refine ev_seg rfl ?_
        simp only [TE, sxs, sx, ldI, ldA, stI, stA, inc, gtF, ptF, ldX, stX, ldR, ldL, stL, dp1, dp2, Tm, kS0, kS1, kS2, kS3, kS4, kS5, kS6, kS7, kS8, kS9, kS10, kS11, kS12, kS13, kS14, kS15, kS16, kS17, kS18, kS19, kS20, kS21, kS22, kS23, kS24, kS25, kS26, kS27, kS28, kS30, kS31, kS32, kS33, kS34, kS35, kS36, kS37, kS38, kS39, kS40, kS41, kS42, kS43, kS51, kS52, kS53, List.getElem?_cons_zero, List.getElem?_cons_succ, List.set_cons_zero, List.set_cons_succ, List.length_cons, List.length_nil, List.drop_succ_cons, List.drop_zero, List.cons_append, List.nil_append, Option.toList_some, Option.toList_none, cz, ci2, true_and, and_true, and_self, true_or, or_true, nI_1, Nat.reduceAdd, Nat.reduceLT]
        refine ev_seg rfl ?_
        simp only [TE, sxs, sx, ldI, ldA, stI, stA, inc, gtF, ptF, ldX, stX, ldR, ldL, stL, dp1, dp2, Tm, kS0, kS1, kS2, kS3, kS4, kS5, kS6, kS7, kS8, kS9, kS10, kS11, kS12, kS13, kS14, kS15, kS16, kS17, kS18, kS19, kS20, kS21, kS22, kS23, kS24, kS25, kS26, kS27, kS28, kS30, kS31, kS32, kS33, kS34, kS35, kS36, kS37, kS38, kS39, kS40, kS41, kS42, kS43, kS51, kS52, kS53, List.getElem?_cons_zero, List.getElem?_cons_succ, List.set_cons_zero, List.set_cons_succ, List.length_cons, List.length_nil, List.drop_succ_cons, List.drop_zero, List.cons_append, List.nil_append, Option.toList_some, Option.toList_none, cz, ci2, true_and, and_true, and_self, true_or, or_true, nI_1, Nat.reduceAdd, Nat.reduceLT]
        exact ih
      · have e1 : msk (fun k => decide (rk k = fr)) (p + 1) = msk (fun k => decide (rk k = fr)) p := by
          rw [msk, if_neg (by rw [decide_eq_true_eq]; exact hc)]
        have e2 : ct (fun k => decide (rk k = fr)) (p + 1) = ct (fun k => decide (rk k = fr)) p := by
          rw [ct, if_neg (by rw [decide_eq_true_eq]; exact hc), Nat.add_zero]
        rw [e1, e2] at ih
        have hne : ¬ nI (rk p) = nI fr := fun w => hc (nI_inj (by omega) (by omega) w)
        refine ⟨(by first | assumption | (and_intros <;> first | assumption | trivial | decide)), fun _ => ?_, fun w => absurd hne w⟩
        refine ev_seg rfl ?_
        simp only [TE, sxs, sx, ldI, ldA, stI, stA, inc, gtF, ptF, ldX, stX, ldR, ldL, stL, dp1, dp2, Tm, kS0, kS1, kS2, kS3, kS4, kS5, kS6, kS7, kS8, kS9, kS10, kS11, kS12, kS13, kS14, kS15, kS16, kS17, kS18, kS19, kS20, kS21, kS22, kS23, kS24, kS25, kS26, kS27, kS28, kS30, kS31, kS32, kS33, kS34, kS35, kS36, kS37, kS38, kS39, kS40, kS41, kS42, kS43, kS51, kS52, kS53, List.getElem?_cons_zero, List.getElem?_cons_succ, List.set_cons_zero, List.set_cons_succ, List.length_cons, List.length_nil, List.drop_succ_cons, List.drop_zero, List.cons_append, List.nil_append, Option.toList_some, Option.toList_none, cz, ci2, true_and, and_true, and_self, true_or, or_true, nI_1, Nat.reduceAdd, Nat.reduceLT]
        refine ev_seg rfl ?_
        simp only [TE, sxs, sx, ldI, ldA, stI, stA, inc, gtF, ptF, ldX, stX, ldR, ldL, stL, dp1, dp2, Tm, kS0, kS1, kS2, kS3, kS4, kS5, kS6, kS7, kS8, kS9, kS10, kS11, kS12, kS13, kS14, kS15, kS16, kS17, kS18, kS19, kS20, kS21, kS22, kS23, kS24, kS25, kS26, kS27, kS28, kS30, kS31, kS32, kS33, kS34, kS35, kS36, kS37, kS38, kS39, kS40, kS41, kS42, kS43, kS51, kS52, kS53, List.getElem?_cons_zero, List.getElem?_cons_succ, List.set_cons_zero, List.set_cons_succ, List.length_cons, List.length_nil, List.drop_succ_cons, List.drop_zero, List.cons_append, List.nil_append, Option.toList_some, Option.toList_none, cz, ci2, true_and, and_true, and_self, true_or, or_true, nI_1, Nat.reduceAdd, Nat.reduceLT, hr1, Int32.or_zero]
        refine ⟨(by first | assumption | (and_intros <;> first | assumption | trivial | decide)), fun _ => ?_, fun w => absurd hne w⟩
        refine ev_seg rfl ?_
        simp only [TE, sxs, sx, ldI, ldA, stI, stA, inc, gtF, ptF, ldX, stX, ldR, ldL, stL, dp1, dp2, Tm, kS0, kS1, kS2, kS3, kS4, kS5, kS6, kS7, kS8, kS9, kS10, kS11, kS12, kS13, kS14, kS15, kS16, kS17, kS18, kS19, kS20, kS21, kS22, kS23, kS24, kS25, kS26, kS27, kS28, kS30, kS31, kS32, kS33, kS34, kS35, kS36, kS37, kS38, kS39, kS40, kS41, kS42, kS43, kS51, kS52, kS53, List.getElem?_cons_zero, List.getElem?_cons_succ, List.set_cons_zero, List.set_cons_succ, List.length_cons, List.length_nil, List.drop_succ_cons, List.drop_zero, List.cons_append, List.nil_append, Option.toList_some, Option.toList_none, cz, ci2, true_and, and_true, and_self, true_or, or_true, nI_1, Nat.reduceAdd, Nat.reduceLT]
        refine ev_seg rfl ?_
        simp only [TE, sxs, sx, ldI, ldA, stI, stA, inc, gtF, ptF, ldX, stX, ldR, ldL, stL, dp1, dp2, Tm, kS0, kS1, kS2, kS3, kS4, kS5, kS6, kS7, kS8, kS9, kS10, kS11, kS12, kS13, kS14, kS15, kS16, kS17, kS18, kS19, kS20, kS21, kS22, kS23, kS24, kS25, kS26, kS27, kS28, kS30, kS31, kS32, kS33, kS34, kS35, kS36, kS37, kS38, kS39, kS40, kS41, kS42, kS43, kS51, kS52, kS53, List.getElem?_cons_zero, List.getElem?_cons_succ, List.set_cons_zero, List.set_cons_succ, List.length_cons, List.length_nil, List.drop_succ_cons, List.drop_zero, List.cons_append, List.nil_append, Option.toList_some, Option.toList_none, cz, ci2, true_and, and_true, and_self, true_or, or_true, nI_1, Nat.reduceAdd, Nat.reduceLT, Int32.add_zero]
        exact ih
  exact loop 0 (Nat.zero_le _)
theorem dv3 : ∀ k, k < 15 → nI k / 3 = nI (k / 3) ∧ nI k - nI k / 3 * 3 = nI (k % 3) := by decide
theorem sp2 (h : MS X i b n) (hS : SY (scM X b) n) {fr M m : Nat} (hM : M < 32) {o : OUT} {z6 z7 z8 z9 : AV} {z4 : AV} :
    ∃ X', Fr [41] X X' ∧ (∀ a k, a < n → k < 3 → tR X' a k = rsC (scM X b) n (fun j => M.testBit j) (fW3 k) a) ∧
      ∀ Z, Ev sc (d + 3) 112 13 [vR 30 0 0, vI (nI i), vI (nI fr), vI (nI M), z4, vI (nI (3 * n)), z6, z7, z8, z9] [] X' o Z 0 → Ev sc (d + 3) 112 9 [vR 30 0 0, vI (nI i), vI (nI fr), vI (nI M), z4, vI (nI m), z6, z7, z8, z9] [] X o Z 0 := by
  have h0 := h
  obtain ⟨⟨h1, h2, h3, h4⟩, h5, h6, h7⟩ := h
  have vi : vp_in (nI i) 6 := vpn (by omega) (by decide)
  have loop : ∀ p, p ≤ 3 * n → ∀ X1 : XT, Fr [41] X X1 → (∀ q, q < p → X1.1 41 0 0 (nI q) = rsC (scM X b) n (fun j => M.testBit j) (fW3 (q % 3)) (q / 3)) →
      ∃ X', Fr [41] X X' ∧ (∀ a k, a < n → k < 3 → tR X' a k = rsC (scM X b) n (fun j => M.testBit j) (fW3 k) a) ∧
      ∀ Z, Ev sc (d + 3) 112 13 [vR 30 0 0, vI (nI i), vI (nI fr), vI (nI M), z4, vI (nI (3 * n)), z6, z7, z8, z9] [] X' o Z 0 → Ev sc (d + 3) 112 10 [vR 30 0 0, vI (nI i), vI (nI fr), vI (nI M), z4, vI (nI p), z6, z7, z8, z9] [] X1 o Z 0 := by
    have e3n : (3 : Int32) * nI n = nI (3 * n) := by rw [show (3 : Int32) = nI 3 from rfl, nI_ml]
    apply loop_up
    · intro X1 hf hq
      have s1 := h0.fr hf (by decide) (by decide) (by decide)
      refine ⟨X1, hf, fun a k ha hk => ?_, fun Z hn => ?_⟩
      · have := hq (3 * a + k) (by omega)
        rw [show (3 * a + k) % 3 = k by omega, show (3 * a + k) / 3 = a by omega] at this
        exact this
      · refine ev_seg rfl ?_
        simp only [TE, sxs, sx, ldI, ldA, stI, stA, inc, gtF, ptF, ldX, stX, ldR, ldL, stL, dp1, dp2, Tm, kS0, kS1, kS2, kS3, kS4, kS5, kS6, kS7, kS8, kS9, kS10, kS11, kS12, kS13, kS14, kS15, kS16, kS17, kS18, kS19, kS20, kS21, kS22, kS23, kS24, kS25, kS26, kS27, kS28, kS30, kS31, kS32, kS33, kS34, kS35, kS36, kS37, kS38, kS39, kS40, kS41, kS42, kS43, kS51, kS52, kS53, List.getElem?_cons_zero, List.getElem?_cons_succ, List.set_cons_zero, List.set_cons_succ, List.length_cons, List.length_nil, List.drop_succ_cons, List.drop_zero, List.cons_append, List.nil_append, Option.toList_some, Option.toList_none, cz, ci2, true_and, and_true, and_self, true_or, or_true, nI_1, Nat.reduceAdd, Nat.reduceLT, s1.2.2.1, e3n]
        exact ⟨(by first | assumption | (and_intros <;> first | assumption | trivial | decide)), fun _ => hn, fun w => absurd (nleI (Nat.le_refl _) (by omega)) w⟩
    · intro p hp ih X1 hf hq
      have s1 := h0.fr hf (by decide) (by decide) (by decide)
      have vp : vp_in (nI p) 15 := vpn (by omega) (by decide)
      obtain ⟨e1, e2⟩ := dv3 p (by omega)
      have hs := s_Msums (sc := sc) (d := d) s1 (by rw [scM_fr hf (by decide)]; exact hS) (a := p / 3) (w := p % 3) (M := M) (by omega) (by omega) hM
      rw [scM_fr hf (by decide)] at hs
      obtain ⟨X', a1, a2, a3⟩ := ih (xs X1.1 41 0 0 (nI p) (rsC (scM X b) n (fun j => M.testBit j) (fW3 (p % 3)) (p / 3)), X1.2) (hf.tr (Fr.xs _ _ _ _ _ (List.mem_singleton.mpr rfl))) (fun q hq2 => by
        show xs X1.1 41 0 0 (nI p) _ 41 0 0 (nI q) = _
        by_cases hqp : q = p
        · rw [hqp, xs_self]
        · rw [xs_nj _ _ _ _ _ (fun w => hqp (nI_inj (by omega) (by omega) w))]
          exact hq q (by omega))
      refine ⟨X', a1, a2, fun Z hn => ?_⟩
      have a3 := a3 Z hn
      refine ev_seg rfl ?_
      simp only [TE, sxs, sx, ldI, ldA, stI, stA, inc, gtF, ptF, ldX, stX, ldR, ldL, stL, dp1, dp2, Tm, kS0, kS1, kS2, kS3, kS4, kS5, kS6, kS7, kS8, kS9, kS10, kS11, kS12, kS13, kS14, kS15, kS16, kS17, kS18, kS19, kS20, kS21, kS22, kS23, kS24, kS25, kS26, kS27, kS28, kS30, kS31, kS32, kS33, kS34, kS35, kS36, kS37, kS38, kS39, kS40, kS41, kS42, kS43, kS51, kS52, kS53, List.getElem?_cons_zero, List.getElem?_cons_succ, List.set_cons_zero, List.set_cons_succ, List.length_cons, List.length_nil, List.drop_succ_cons, List.drop_zero, List.cons_append, List.nil_append, Option.toList_some, Option.toList_none, cz, ci2, true_and, and_true, and_self, true_or, or_true, nI_1, Nat.reduceAdd, Nat.reduceLT, s1.2.2.1, e3n]
      refine ⟨(by first | assumption | (and_intros <;> first | assumption | trivial | decide)), fun w => absurd w (nle hp (by omega)), fun _ => ?_⟩
      refine ev_seg rfl ?_
      simp only [TE, sxs, sx, ldI, ldA, stI, stA, inc, gtF, ptF, ldX, stX, ldR, ldL, stL, dp1, dp2, Tm, kS0, kS1, kS2, kS3, kS4, kS5, kS6, kS7, kS8, kS9, kS10, kS11, kS12, kS13, kS14, kS15, kS16, kS17, kS18, kS19, kS20, kS21, kS22, kS23, kS24, kS25, kS26, kS27, kS28, kS30, kS31, kS32, kS33, kS34, kS35, kS36, kS37, kS38, kS39, kS40, kS41, kS42, kS43, kS51, kS52, kS53, List.getElem?_cons_zero, List.getElem?_cons_succ, List.set_cons_zero, List.set_cons_succ, List.length_cons, List.length_nil, List.drop_succ_cons, List.drop_zero, List.cons_append, List.nil_append, Option.toList_some, Option.toList_none, cz, ci2, true_and, and_true, and_self, true_or, or_true, nI_1, Nat.reduceAdd, Nat.reduceLT, s1.2.1, e2]
      rw [e1, nI_ad]
      refine ⟨(by first | assumption | (and_intros <;> first | assumption | trivial | decide)), cv4 rfl rfl (by first | exact rfl | exact trivial) (hs) ?_⟩
      refine ev_seg rfl ?_
      simp only [TE, sxs, sx, ldI, ldA, stI, stA, inc, gtF, ptF, ldX, stX, ldR, ldL, stL, dp1, dp2, Tm, kS0, kS1, kS2, kS3, kS4, kS5, kS6, kS7, kS8, kS9, kS10, kS11, kS12, kS13, kS14, kS15, kS16, kS17, kS18, kS19, kS20, kS21, kS22, kS23, kS24, kS25, kS26, kS27, kS28, kS30, kS31, kS32, kS33, kS34, kS35, kS36, kS37, kS38, kS39, kS40, kS41, kS42, kS43, kS51, kS52, kS53, List.getElem?_cons_zero, List.getElem?_cons_succ, List.set_cons_zero, List.set_cons_succ, List.length_cons, List.length_nil, List.drop_succ_cons, List.drop_zero, List.cons_append, List.nil_append, Option.toList_some, Option.toList_none, cz, ci2, true_and, and_true, and_self, true_or, or_true, nI_1, Nat.reduceAdd, Nat.reduceLT]
      exact ⟨(by first | assumption | (and_intros <;> first | assumption | trivial | decide)), a3⟩
  obtain ⟨X', a1, a2, a3⟩ := loop 0 (Nat.zero_le _) X (Fr.rf _ _) (fun q hq => absurd hq (by omega))
  refine ⟨X', a1, a2, fun Z hn => ?_⟩
  refine ev_seg rfl ?_
  simp only [TE, sxs, sx, ldI, ldA, stI, stA, inc, gtF, ptF, ldX, stX, ldR, ldL, stL, dp1, dp2, Tm, kS0, kS1, kS2, kS3, kS4, kS5, kS6, kS7, kS8, kS9, kS10, kS11, kS12, kS13, kS14, kS15, kS16, kS17, kS18, kS19, kS20, kS21, kS22, kS23, kS24, kS25, kS26, kS27, kS28, kS30, kS31, kS32, kS33, kS34, kS35, kS36, kS37, kS38, kS39, kS40, kS41, kS42, kS43, kS51, kS52, kS53, List.getElem?_cons_zero, List.getElem?_cons_succ, List.set_cons_zero, List.set_cons_succ, List.length_cons, List.length_nil, List.drop_succ_cons, List.drop_zero, List.cons_append, List.nil_append, Option.toList_some, Option.toList_none, cz, ci2, true_and, and_true, and_self, true_or, or_true, nI_1, Nat.reduceAdd, Nat.reduceLT]
  exact a3 Z hn
theorem sgR_lt {f g : Nat → Int32} {m s : Nat} (h1 : 1 ≤ s) (h2 : s + m < 100) : (sgR f g m s < 0 ↔ ¬ betB f g m = true) ∧ ¬ sgR f g m s = 0 ∧ (if sgR f g m s < 0 then -sgR f g m s else sgR f g m s) = nI (s + fa f g m) := by
  have hf := fa_le f g m
  have hneg : -nI (s + fa f g m) = zI (-(s + fa f g m : Nat)) := by rw [zI_n]; exact (Int32.ofInt_neg _).symm
  unfold sgR
  by_cases hb : betB f g m = true
  · have h9 : ¬ nI (s + fa f g m) < 0 := i_nlt (nleI (a := 0) (by omega) (by omega))
    rw [if_pos hb, if_neg h9]
    exact ⟨⟨fun w => absurd w h9, fun w => absurd hb w⟩, fun w => by have := nI_inj (b := 0) (by omega) (by omega) w; omega, rfl⟩
  · have h9 : -nI (s + fa f g m) < 0 := by
      rw [hneg, show (0 : Int32) = zI 0 from rfl, zI_lt (by omega) (by omega) (by omega) (by omega)]
      omega
    rw [if_neg hb, if_pos h9]
    exact ⟨⟨fun _ => hb, fun _ => h9⟩, fun w => i_irr 0 (by rw [w] at h9; exact h9), Int32.neg_neg⟩
def alB (S : Nat → Nat → Int32) (n : Nat) (C : Nat → Bool) : Nat → Bool
  | 0 => true
  | p + 1 => alB S n C p && (!(C (p / n) && C (p % n)) || decide (fa (k3 S n C (p / n)) (k3 S n C (p % n)) 3 = 3))
theorem alB_iff {S : Nat → Nat → Int32} {C : Nat → Bool} : ∀ {p : Nat}, alB S n C p = true ↔ ∀ q, q < p → C (q / n) = true → C (q % n) = true → fa (k3 S n C (q / n)) (k3 S n C (q % n)) 3 = 3
  | 0 => by simp [alB]
  | p + 1 => by
    rw [alB, Bool.and_eq_true, alB_iff (p := p), Bool.or_eq_true, decide_eq_true_eq]
    constructor
    · rintro ⟨h1, h2⟩ q hq c1 c2
      by_cases hqp : q = p
      · subst hqp
        rcases h2 with h2 | h2
        · rw [c1, c2] at h2; cases h2
        · exact h2
      · exact h1 q (by omega) c1 c2
    · intro h
      refine ⟨fun q hq => h q (by omega), ?_⟩
      cases c1 : C (p / n) with
      | false => exact Or.inl rfl
      | true =>
        cases c2 : C (p % n) with
        | false => exact Or.inl rfl
        | true => exact Or.inr (h p (by omega) c1 c2)
theorem alB_all {S : Nat → Nat → Int32} {C : Nat → Bool} (h3 : 0 < n) : alB S n C (n * n) = ALb S n C := by
  rw [Bool.eq_iff_iff, alB_iff, ALb_iff]
  constructor
  · intro h x z hx hz c1 c2
    have h9 : x * n + z < n * n := by
      have : (x + 1) * n ≤ n * n := Nat.mul_le_mul_right n hx
      rw [Nat.add_mul] at this
      omega
    have e1 : (x * n + z) / n = x := by rw [Nat.mul_comm, Nat.mul_add_div h3, Nat.div_eq_of_lt hz, Nat.add_zero]
    have e2 : (x * n + z) % n = z := by rw [Nat.mul_comm, Nat.mul_add_mod, Nat.mod_eq_of_lt hz]
    have := h (x * n + z) h9
    rw [e1, e2] at this
    exact this c1 c2
  · intro h q hq c1 c2
    exact h _ _ (Nat.div_lt_of_lt_mul hq) (Nat.mod_lt _ h3) c1 c2
theorem dvn : ∀ n, n < 6 → 3 ≤ n → ∀ k, k < 25 → nI k / nI n = nI (k / n) ∧ nI k - nI k / nI n * nI n = nI (k % n) := by decide +kernel
theorem sp3 (h : MS X i b n) {S : Nat → Nat → Int32} (hS : SY S n) (hB : SB S n) {C : Nat → Bool} (hT : ∀ a k, a < n → k < 3 → tR X a k = k3 S n C a k) {fr : Nat} {o : OUT} {Z : XT} {z4 z5 z6 z7 z8 z9 : AV}
    (hn : ∀ z7, Ev sc (d + 1) 112 26 [vR 30 0 0, vI (nI i), vI (nI fr), vI (nI (msk C n)), z4, vI (bI (ALb S n C = true)), vI (nI (n * n)), z7, z8, z9] [] X o Z 0) :
    Ev sc (d + 1) 112 13 [vR 30 0 0, vI (nI i), vI (nI fr), vI (nI (msk C n)), z4, z5, z6, z7, z8, z9] [] X o Z 0 := by
  obtain ⟨⟨h1, h2, h3, h4⟩, h5, h6, h7⟩ := h
  have vi : vp_in (nI i) 6 := vpn (by omega) (by decide)
  have hM := msk_lt C h3
  have hbit : ∀ j, j < n → ((nI (msk C n) >>> (nI j &&& 31)) &&& 1 = 1 ↔ C j = true) := fun j hj => by
    rw [m_bit2 _ hM j (by omega), msk_bit]
    exact ⟨fun w => w.2, fun w => ⟨hj, w⟩⟩
  have hnn : n * n ≤ 25 := Nat.mul_le_mul h3 h3
  have loop : ∀ p, p ≤ n * n → ∀ z7, Ev sc (d + 1) 112 14 [vR 30 0 0, vI (nI i), vI (nI fr), vI (nI (msk C n)), z4, vI (bI (alB S n C p = true)), vI (nI p), z7, z8, z9] [] X o Z 0 := by
    apply loop_up
    · intro z7
      have hn := hn z7
      rw [← alB_all (by omega)] at hn
      refine ev_seg rfl ?_
      simp only [TE, sxs, sx, ldI, ldA, stI, stA, inc, gtF, ptF, ldX, stX, ldR, ldL, stL, dp1, dp2, Tm, kS0, kS1, kS2, kS3, kS4, kS5, kS6, kS7, kS8, kS9, kS10, kS11, kS12, kS13, kS14, kS15, kS16, kS17, kS18, kS19, kS20, kS21, kS22, kS23, kS24, kS25, kS26, kS27, kS28, kS30, kS31, kS32, kS33, kS34, kS35, kS36, kS37, kS38, kS39, kS40, kS41, kS42, kS43, kS51, kS52, kS53, List.getElem?_cons_zero, List.getElem?_cons_succ, List.set_cons_zero, List.set_cons_succ, List.length_cons, List.length_nil, List.drop_succ_cons, List.drop_zero, List.cons_append, List.nil_append, Option.toList_some, Option.toList_none, cz, ci2, true_and, and_true, and_self, true_or, or_true, nI_1, Nat.reduceAdd, Nat.reduceLT, h6, nI_ml]
      exact ⟨(by first | assumption | (and_intros <;> first | assumption | trivial | decide)), fun _ => hn, fun w => absurd (nleI (Nat.le_refl _) (by omega)) w⟩
    · intro p hp ih z7
      obtain ⟨e1, e2⟩ := dvn n (by omega) h2 p (by omega)
      have e3 : nI p - nI (p / n) * nI n = nI (p % n) := by rw [← e1]; exact e2
      have hx : p / n < n := Nat.div_lt_of_lt_mul hp
      have hy : p % n < n := Nat.mod_lt _ (by omega)
      have nz : ¬ nI n = 0 := fun w => by have := nI_inj (b := 0) (by omega) (by omega) w; omega
      have fin1 : ∀ z7, alB S n C (p + 1) = true → Ev sc (d + 1) 112 23 [vR 30 0 0, vI (nI i), vI (nI fr), vI (nI (msk C n)), z4, vI (bI (alB S n C p = true)), vI (nI p), z7, z8, z9] [] X o Z 0 := by
        intro z7 hal
        have ih := ih z7
        rw [bI_t hal] at ih
        refine ev_seg rfl ?_
        simp only [TE, sxs, sx, ldI, ldA, stI, stA, inc, gtF, ptF, ldX, stX, ldR, ldL, stL, dp1, dp2, Tm, kS0, kS1, kS2, kS3, kS4, kS5, kS6, kS7, kS8, kS9, kS10, kS11, kS12, kS13, kS14, kS15, kS16, kS17, kS18, kS19, kS20, kS21, kS22, kS23, kS24, kS25, kS26, kS27, kS28, kS30, kS31, kS32, kS33, kS34, kS35, kS36, kS37, kS38, kS39, kS40, kS41, kS42, kS43, kS51, kS52, kS53, List.getElem?_cons_zero, List.getElem?_cons_succ, List.set_cons_zero, List.set_cons_succ, List.length_cons, List.length_nil, List.drop_succ_cons, List.drop_zero, List.cons_append, List.nil_append, Option.toList_some, Option.toList_none, cz, ci2, true_and, and_true, and_self, true_or, or_true, nI_1, Nat.reduceAdd, Nat.reduceLT]
        refine ev_seg rfl ?_
        simp only [TE, sxs, sx, ldI, ldA, stI, stA, inc, gtF, ptF, ldX, stX, ldR, ldL, stL, dp1, dp2, Tm, kS0, kS1, kS2, kS3, kS4, kS5, kS6, kS7, kS8, kS9, kS10, kS11, kS12, kS13, kS14, kS15, kS16, kS17, kS18, kS19, kS20, kS21, kS22, kS23, kS24, kS25, kS26, kS27, kS28, kS30, kS31, kS32, kS33, kS34, kS35, kS36, kS37, kS38, kS39, kS40, kS41, kS42, kS43, kS51, kS52, kS53, List.getElem?_cons_zero, List.getElem?_cons_succ, List.set_cons_zero, List.set_cons_succ, List.length_cons, List.length_nil, List.drop_succ_cons, List.drop_zero, List.cons_append, List.nil_append, Option.toList_some, Option.toList_none, cz, ci2, true_and, and_true, and_self, true_or, or_true, nI_1, Nat.reduceAdd, Nat.reduceLT]
        exact ih
      have fin0 : ∀ z7, ¬ alB S n C (p + 1) = true → Ev sc (d + 1) 112 24 [vR 30 0 0, vI (nI i), vI (nI fr), vI (nI (msk C n)), z4, vI (bI (alB S n C p = true)), vI (nI p), z7, z8, z9] [] X o Z 0 := by
        intro z7 hal
        have ih := ih z7
        rw [bI_f hal] at ih
        refine ev_seg rfl ?_
        simp only [TE, sxs, sx, ldI, ldA, stI, stA, inc, gtF, ptF, ldX, stX, ldR, ldL, stL, dp1, dp2, Tm, kS0, kS1, kS2, kS3, kS4, kS5, kS6, kS7, kS8, kS9, kS10, kS11, kS12, kS13, kS14, kS15, kS16, kS17, kS18, kS19, kS20, kS21, kS22, kS23, kS24, kS25, kS26, kS27, kS28, kS30, kS31, kS32, kS33, kS34, kS35, kS36, kS37, kS38, kS39, kS40, kS41, kS42, kS43, kS51, kS52, kS53, List.getElem?_cons_zero, List.getElem?_cons_succ, List.set_cons_zero, List.set_cons_succ, List.length_cons, List.length_nil, List.drop_succ_cons, List.drop_zero, List.cons_append, List.nil_append, Option.toList_some, Option.toList_none, cz, ci2, true_and, and_true, and_self, true_or, or_true, nI_1, Nat.reduceAdd, Nat.reduceLT]
        refine ev_seg rfl ?_
        simp only [TE, sxs, sx, ldI, ldA, stI, stA, inc, gtF, ptF, ldX, stX, ldR, ldL, stL, dp1, dp2, Tm, kS0, kS1, kS2, kS3, kS4, kS5, kS6, kS7, kS8, kS9, kS10, kS11, kS12, kS13, kS14, kS15, kS16, kS17, kS18, kS19, kS20, kS21, kS22, kS23, kS24, kS25, kS26, kS27, kS28, kS30, kS31, kS32, kS33, kS34, kS35, kS36, kS37, kS38, kS39, kS40, kS41, kS42, kS43, kS51, kS52, kS53, List.getElem?_cons_zero, List.getElem?_cons_succ, List.set_cons_zero, List.set_cons_succ, List.length_cons, List.length_nil, List.drop_succ_cons, List.drop_zero, List.cons_append, List.nil_append, Option.toList_some, Option.toList_none, cz, ci2, true_and, and_true, and_self, true_or, or_true, nI_1, Nat.reduceAdd, Nat.reduceLT]
        exact ih
      have mid : Ev sc (d + 1) 112 19 [vR 30 0 0, vI (nI i), vI (nI fr), vI (nI (msk C n)), z4, vI (bI (alB S n C p = true)), vI (nI p), z7, z8, z9] [vI (bI (C (p / n) = true ∧ C (p % n) = true))] X o Z 0 := by
        by_cases ha : alB S n C p = true
        · by_cases hc : C (p / n) = true ∧ C (p % n) = true
          · have hr := s_MtiedRule (sc := sc) (d := d) (X := X) (a := p / n) (a' := p % n) (by omega) (by omega) (fun k hk => by
              rw [hT _ k hx hk, hT _ k hy hk]
              obtain ⟨⟨x, x1, x2⟩, ⟨y, y1, y2⟩, w, w1, w2⟩ := rs_bd hS hB h3 hx C
              obtain ⟨⟨x', x1', x2'⟩, ⟨y', y1', y2'⟩, w', w1', w2'⟩ := rs_bd hS hB h3 hy C
              rcases (show k = 0 ∨ k = 1 ∨ k = 2 by omega) with rfl | rfl | rfl
              · exact ⟨⟨x, x1, by omega, by omega⟩, x', x1', by omega, by omega⟩
              · exact ⟨⟨y, y1, by omega, by omega⟩, y', y1', by omega, by omega⟩
              · exact ⟨⟨w, w1, by omega, by omega⟩, w', w1', by omega, by omega⟩)
            have ef : fa (tR X (p / n)) (tR X (p % n)) 3 = fa (k3 S n C (p / n)) (k3 S n C (p % n)) 3 := fa_congr (fun k hk => hT _ k hx hk) (fun k hk => hT _ k hy hk)
            rw [bI_t ha, bI_t hc]
            refine ev_seg rfl ?_
            simp only [TE, sxs, sx, ldI, ldA, stI, stA, inc, gtF, ptF, ldX, stX, ldR, ldL, stL, dp1, dp2, Tm, kS0, kS1, kS2, kS3, kS4, kS5, kS6, kS7, kS8, kS9, kS10, kS11, kS12, kS13, kS14, kS15, kS16, kS17, kS18, kS19, kS20, kS21, kS22, kS23, kS24, kS25, kS26, kS27, kS28, kS30, kS31, kS32, kS33, kS34, kS35, kS36, kS37, kS38, kS39, kS40, kS41, kS42, kS43, kS51, kS52, kS53, List.getElem?_cons_zero, List.getElem?_cons_succ, List.set_cons_zero, List.set_cons_succ, List.length_cons, List.length_nil, List.drop_succ_cons, List.drop_zero, List.cons_append, List.nil_append, Option.toList_some, Option.toList_none, cz, ci2, true_and, and_true, and_self, true_or, or_true, nI_1, Nat.reduceAdd, Nat.reduceLT]
            refine ⟨fun w => absurd w (by decide), fun _ => ?_⟩
            refine ev_seg rfl ?_
            simp only [TE, sxs, sx, ldI, ldA, stI, stA, inc, gtF, ptF, ldX, stX, ldR, ldL, stL, dp1, dp2, Tm, kS0, kS1, kS2, kS3, kS4, kS5, kS6, kS7, kS8, kS9, kS10, kS11, kS12, kS13, kS14, kS15, kS16, kS17, kS18, kS19, kS20, kS21, kS22, kS23, kS24, kS25, kS26, kS27, kS28, kS30, kS31, kS32, kS33, kS34, kS35, kS36, kS37, kS38, kS39, kS40, kS41, kS42, kS43, kS51, kS52, kS53, List.getElem?_cons_zero, List.getElem?_cons_succ, List.set_cons_zero, List.set_cons_succ, List.length_cons, List.length_nil, List.drop_succ_cons, List.drop_zero, List.cons_append, List.nil_append, Option.toList_some, Option.toList_none, cz, ci2, true_and, and_true, and_self, true_or, or_true, nI_1, Nat.reduceAdd, Nat.reduceLT]
            refine ⟨fun w => absurd w (by decide), fun _ => ?_⟩
            refine ev_seg rfl ?_
            simp only [TE, sxs, sx, ldI, ldA, stI, stA, inc, gtF, ptF, ldX, stX, ldR, ldL, stL, dp1, dp2, Tm, kS0, kS1, kS2, kS3, kS4, kS5, kS6, kS7, kS8, kS9, kS10, kS11, kS12, kS13, kS14, kS15, kS16, kS17, kS18, kS19, kS20, kS21, kS22, kS23, kS24, kS25, kS26, kS27, kS28, kS30, kS31, kS32, kS33, kS34, kS35, kS36, kS37, kS38, kS39, kS40, kS41, kS42, kS43, kS51, kS52, kS53, List.getElem?_cons_zero, List.getElem?_cons_succ, List.set_cons_zero, List.set_cons_succ, List.length_cons, List.length_nil, List.drop_succ_cons, List.drop_zero, List.cons_append, List.nil_append, Option.toList_some, Option.toList_none, cz, ci2, true_and, and_true, and_self, true_or, or_true, nI_1, Nat.reduceAdd, Nat.reduceLT, h6, e1, e3]
            refine ⟨⟨vi, nz, vi, nz⟩, cv3 rfl rfl (by first | exact rfl | exact trivial) (hr) ?_⟩
            rw [ef]
            have fin1 := fin1 (vI 1)
            have fin0 := fin0 (vI 1)
            rw [bI_t ha] at fin1 fin0
            by_cases hf : fa (k3 S n C (p / n)) (k3 S n C (p % n)) 3 = 3
            · rw [if_pos hf]
              refine ev_seg rfl ?_
              simp only [TE, sxs, sx, ldI, ldA, stI, stA, inc, gtF, ptF, ldX, stX, ldR, ldL, stL, dp1, dp2, Tm, kS0, kS1, kS2, kS3, kS4, kS5, kS6, kS7, kS8, kS9, kS10, kS11, kS12, kS13, kS14, kS15, kS16, kS17, kS18, kS19, kS20, kS21, kS22, kS23, kS24, kS25, kS26, kS27, kS28, kS30, kS31, kS32, kS33, kS34, kS35, kS36, kS37, kS38, kS39, kS40, kS41, kS42, kS43, kS51, kS52, kS53, List.getElem?_cons_zero, List.getElem?_cons_succ, List.set_cons_zero, List.set_cons_succ, List.length_cons, List.length_nil, List.drop_succ_cons, List.drop_zero, List.cons_append, List.nil_append, Option.toList_some, Option.toList_none, cz, ci2, true_and, and_true, and_self, true_or, or_true, nI_1, Nat.reduceAdd, Nat.reduceLT]
              refine ⟨fun w => absurd trivial w, fun _ => fin1 ?_⟩
              rw [alB, ha, decide_eq_true hf]
              simp
            · rw [if_neg hf]
              refine ev_seg rfl ?_
              simp only [TE, sxs, sx, ldI, ldA, stI, stA, inc, gtF, ptF, ldX, stX, ldR, ldL, stL, dp1, dp2, Tm, kS0, kS1, kS2, kS3, kS4, kS5, kS6, kS7, kS8, kS9, kS10, kS11, kS12, kS13, kS14, kS15, kS16, kS17, kS18, kS19, kS20, kS21, kS22, kS23, kS24, kS25, kS26, kS27, kS28, kS30, kS31, kS32, kS33, kS34, kS35, kS36, kS37, kS38, kS39, kS40, kS41, kS42, kS43, kS51, kS52, kS53, List.getElem?_cons_zero, List.getElem?_cons_succ, List.set_cons_zero, List.set_cons_succ, List.length_cons, List.length_nil, List.drop_succ_cons, List.drop_zero, List.cons_append, List.nil_append, Option.toList_some, Option.toList_none, cz, ci2, true_and, and_true, and_self, true_or, or_true, nI_1, Nat.reduceAdd, Nat.reduceLT]
              refine ⟨fun _ => fin0 ?_, fun w => absurd (sgR_lt (by decide) (by decide)).2.1 w⟩
              rw [alB, ha, hc.1, hc.2, decide_eq_false hf]
              decide
          · rw [bI_t ha, bI_f hc]
            have fin1 := fin1 (vI 0)
            rw [bI_t ha] at fin1
            refine ev_seg rfl ?_
            simp only [TE, sxs, sx, ldI, ldA, stI, stA, inc, gtF, ptF, ldX, stX, ldR, ldL, stL, dp1, dp2, Tm, kS0, kS1, kS2, kS3, kS4, kS5, kS6, kS7, kS8, kS9, kS10, kS11, kS12, kS13, kS14, kS15, kS16, kS17, kS18, kS19, kS20, kS21, kS22, kS23, kS24, kS25, kS26, kS27, kS28, kS30, kS31, kS32, kS33, kS34, kS35, kS36, kS37, kS38, kS39, kS40, kS41, kS42, kS43, kS51, kS52, kS53, List.getElem?_cons_zero, List.getElem?_cons_succ, List.set_cons_zero, List.set_cons_succ, List.length_cons, List.length_nil, List.drop_succ_cons, List.drop_zero, List.cons_append, List.nil_append, Option.toList_some, Option.toList_none, cz, ci2, true_and, and_true, and_self, true_or, or_true, nI_1, Nat.reduceAdd, Nat.reduceLT]
            refine ⟨fun w => absurd w (by decide), fun _ => ?_⟩
            refine ev_seg rfl ?_
            simp only [TE, sxs, sx, ldI, ldA, stI, stA, inc, gtF, ptF, ldX, stX, ldR, ldL, stL, dp1, dp2, Tm, kS0, kS1, kS2, kS3, kS4, kS5, kS6, kS7, kS8, kS9, kS10, kS11, kS12, kS13, kS14, kS15, kS16, kS17, kS18, kS19, kS20, kS21, kS22, kS23, kS24, kS25, kS26, kS27, kS28, kS30, kS31, kS32, kS33, kS34, kS35, kS36, kS37, kS38, kS39, kS40, kS41, kS42, kS43, kS51, kS52, kS53, List.getElem?_cons_zero, List.getElem?_cons_succ, List.set_cons_zero, List.set_cons_succ, List.length_cons, List.length_nil, List.drop_succ_cons, List.drop_zero, List.cons_append, List.nil_append, Option.toList_some, Option.toList_none, cz, ci2, true_and, and_true, and_self, true_or, or_true, nI_1, Nat.reduceAdd, Nat.reduceLT]
            refine ⟨fun _ => fin1 ?_, fun w => absurd trivial w⟩
            rw [alB, ha]
            cases c1 : C (p / n) with
            | false => rfl
            | true =>
              cases c2 : C (p % n) with
              | false => rfl
              | true => exact absurd ⟨c1, c2⟩ hc
        · have fin0 := fin0 (vI (bI (C (p / n) = true ∧ C (p % n) = true)))
          rw [bI_f ha] at fin0 ⊢
          refine ev_seg rfl ?_
          simp only [TE, sxs, sx, ldI, ldA, stI, stA, inc, gtF, ptF, ldX, stX, ldR, ldL, stL, dp1, dp2, Tm, kS0, kS1, kS2, kS3, kS4, kS5, kS6, kS7, kS8, kS9, kS10, kS11, kS12, kS13, kS14, kS15, kS16, kS17, kS18, kS19, kS20, kS21, kS22, kS23, kS24, kS25, kS26, kS27, kS28, kS30, kS31, kS32, kS33, kS34, kS35, kS36, kS37, kS38, kS39, kS40, kS41, kS42, kS43, kS51, kS52, kS53, List.getElem?_cons_zero, List.getElem?_cons_succ, List.set_cons_zero, List.set_cons_succ, List.length_cons, List.length_nil, List.drop_succ_cons, List.drop_zero, List.cons_append, List.nil_append, Option.toList_some, Option.toList_none, cz, ci2, true_and, and_true, and_self, true_or, or_true, nI_1, Nat.reduceAdd, Nat.reduceLT]
          refine ⟨fun _ => fin0 ?_, fun w => absurd trivial w⟩
          rw [alB, Bool.eq_false_iff.mpr ha]
          simp
      have m0 : ¬ (C (p / n) = true ∧ C (p % n) = true) → Ev sc (d + 1) 112 18 [vR 30 0 0, vI (nI i), vI (nI fr), vI (nI (msk C n)), z4, vI (bI (alB S n C p = true)), vI (nI p), z7, z8, z9] [] X o Z 0 := by
        intro hc
        rw [bI_f hc] at mid
        refine ev_seg rfl ?_
        simp only [TE, sxs, sx, ldI, ldA, stI, stA, inc, gtF, ptF, ldX, stX, ldR, ldL, stL, dp1, dp2, Tm, kS0, kS1, kS2, kS3, kS4, kS5, kS6, kS7, kS8, kS9, kS10, kS11, kS12, kS13, kS14, kS15, kS16, kS17, kS18, kS19, kS20, kS21, kS22, kS23, kS24, kS25, kS26, kS27, kS28, kS30, kS31, kS32, kS33, kS34, kS35, kS36, kS37, kS38, kS39, kS40, kS41, kS42, kS43, kS51, kS52, kS53, List.getElem?_cons_zero, List.getElem?_cons_succ, List.set_cons_zero, List.set_cons_succ, List.length_cons, List.length_nil, List.drop_succ_cons, List.drop_zero, List.cons_append, List.nil_append, Option.toList_some, Option.toList_none, cz, ci2, true_and, and_true, and_self, true_or, or_true, nI_1, Nat.reduceAdd, Nat.reduceLT]
        exact mid
      refine ev_seg rfl ?_
      simp only [TE, sxs, sx, ldI, ldA, stI, stA, inc, gtF, ptF, ldX, stX, ldR, ldL, stL, dp1, dp2, Tm, kS0, kS1, kS2, kS3, kS4, kS5, kS6, kS7, kS8, kS9, kS10, kS11, kS12, kS13, kS14, kS15, kS16, kS17, kS18, kS19, kS20, kS21, kS22, kS23, kS24, kS25, kS26, kS27, kS28, kS30, kS31, kS32, kS33, kS34, kS35, kS36, kS37, kS38, kS39, kS40, kS41, kS42, kS43, kS51, kS52, kS53, List.getElem?_cons_zero, List.getElem?_cons_succ, List.set_cons_zero, List.set_cons_succ, List.length_cons, List.length_nil, List.drop_succ_cons, List.drop_zero, List.cons_append, List.nil_append, Option.toList_some, Option.toList_none, cz, ci2, true_and, and_true, and_self, true_or, or_true, nI_1, Nat.reduceAdd, Nat.reduceLT, h6, nI_ml]
      refine ⟨(by first | assumption | (and_intros <;> first | assumption | trivial | decide)), fun w => absurd w (nle hp (by omega)), fun _ => ?_⟩
      refine ev_seg rfl ?_
      simp only [TE, sxs, sx, ldI, ldA, stI, stA, inc, gtF, ptF, ldX, stX, ldR, ldL, stL, dp1, dp2, Tm, kS0, kS1, kS2, kS3, kS4, kS5, kS6, kS7, kS8, kS9, kS10, kS11, kS12, kS13, kS14, kS15, kS16, kS17, kS18, kS19, kS20, kS21, kS22, kS23, kS24, kS25, kS26, kS27, kS28, kS30, kS31, kS32, kS33, kS34, kS35, kS36, kS37, kS38, kS39, kS40, kS41, kS42, kS43, kS51, kS52, kS53, List.getElem?_cons_zero, List.getElem?_cons_succ, List.set_cons_zero, List.set_cons_succ, List.length_cons, List.length_nil, List.drop_succ_cons, List.drop_zero, List.cons_append, List.nil_append, Option.toList_some, Option.toList_none, cz, ci2, true_and, and_true, and_self, true_or, or_true, nI_1, Nat.reduceAdd, Nat.reduceLT, h6, e1]
      refine ⟨⟨vi, nz⟩, fun w => m0 (fun q => w ((hbit _ hx).mpr q.1)), fun w => ?_⟩
      have c1 := (hbit _ hx).mp (Classical.not_not.mp w)
      refine ev_seg rfl ?_
      simp only [TE, sxs, sx, ldI, ldA, stI, stA, inc, gtF, ptF, ldX, stX, ldR, ldL, stL, dp1, dp2, Tm, kS0, kS1, kS2, kS3, kS4, kS5, kS6, kS7, kS8, kS9, kS10, kS11, kS12, kS13, kS14, kS15, kS16, kS17, kS18, kS19, kS20, kS21, kS22, kS23, kS24, kS25, kS26, kS27, kS28, kS30, kS31, kS32, kS33, kS34, kS35, kS36, kS37, kS38, kS39, kS40, kS41, kS42, kS43, kS51, kS52, kS53, List.getElem?_cons_zero, List.getElem?_cons_succ, List.set_cons_zero, List.set_cons_succ, List.length_cons, List.length_nil, List.drop_succ_cons, List.drop_zero, List.cons_append, List.nil_append, Option.toList_some, Option.toList_none, cz, ci2, true_and, and_true, and_self, true_or, or_true, nI_1, Nat.reduceAdd, Nat.reduceLT, h6, e2]
      refine ⟨⟨vi, nz⟩, fun w => m0 (fun q => w ((hbit _ hy).mpr q.2)), fun w => ?_⟩
      have c2 := (hbit _ hy).mp (Classical.not_not.mp w)
      rw [bI_t (p := C (p / n) = true ∧ C (p % n) = true) ⟨c1, c2⟩] at mid
      refine ev_seg rfl ?_
      simp only [TE, sxs, sx, ldI, ldA, stI, stA, inc, gtF, ptF, ldX, stX, ldR, ldL, stL, dp1, dp2, Tm, kS0, kS1, kS2, kS3, kS4, kS5, kS6, kS7, kS8, kS9, kS10, kS11, kS12, kS13, kS14, kS15, kS16, kS17, kS18, kS19, kS20, kS21, kS22, kS23, kS24, kS25, kS26, kS27, kS28, kS30, kS31, kS32, kS33, kS34, kS35, kS36, kS37, kS38, kS39, kS40, kS41, kS42, kS43, kS51, kS52, kS53, List.getElem?_cons_zero, List.getElem?_cons_succ, List.set_cons_zero, List.set_cons_succ, List.length_cons, List.length_nil, List.drop_succ_cons, List.drop_zero, List.cons_append, List.nil_append, Option.toList_some, Option.toList_none, cz, ci2, true_and, and_true, and_self, true_or, or_true, nI_1, Nat.reduceAdd, Nat.reduceLT]
      exact mid
  refine ev_seg rfl ?_
  simp only [TE, sxs, sx, ldI, ldA, stI, stA, inc, gtF, ptF, ldX, stX, ldR, ldL, stL, dp1, dp2, Tm, kS0, kS1, kS2, kS3, kS4, kS5, kS6, kS7, kS8, kS9, kS10, kS11, kS12, kS13, kS14, kS15, kS16, kS17, kS18, kS19, kS20, kS21, kS22, kS23, kS24, kS25, kS26, kS27, kS28, kS30, kS31, kS32, kS33, kS34, kS35, kS36, kS37, kS38, kS39, kS40, kS41, kS42, kS43, kS51, kS52, kS53, List.getElem?_cons_zero, List.getElem?_cons_succ, List.set_cons_zero, List.set_cons_succ, List.length_cons, List.length_nil, List.drop_succ_cons, List.drop_zero, List.cons_append, List.nil_append, Option.toList_some, Option.toList_none, cz, ci2, true_and, and_true, and_self, true_or, or_true, nI_1, Nat.reduceAdd, Nat.reduceLT]
  exact loop 0 (Nat.zero_le _) _
end Msp
