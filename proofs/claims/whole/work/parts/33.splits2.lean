/-! the reference: the new ranks -/
section Ms2
variable {sc : SC} {d : Nat} {X : XT} {i b n : Nat}
/-- the state while ranks are made: rows before k, and in row k the teams before q -/
def NXT (X X1 : XT) (n : Nat) (rk : Nat → Nat) (ap : Nat → Nat → Nat) (R : Nat → Nat → Int32) (apn : Nat → Nat → Nat) (k q : Nat) : Prop := Fr [39, 40] X X1 ∧ (∀ k', k' < k → X1.1 39 0 0 (nI k') = nI (rk k' + ct (fun o => decide (R k' o < 0)) n)) ∧ (∀ k' o, k' < n → o < n → X1.1 40 0 0 (nI (5 * k' + o)) = nI (if k' < k ∨ (k' = k ∧ o < q) then apn k' o else ap k' o)) ∧ (0 < q → X1.1 39 0 0 (nI k) = nI (rk k + ct (fun o => decide (R k o < 0)) q))
theorem sp4 (h : MS X i b n) {rk : Nat → Nat} {ap : Nat → Nat → Nat} {R : Nat → Nat → Int32} {apn : Nat → Nat → Nat} (hK : RK X n rk ap) (hA : ∀ k o, k < n → o < n → nI (apn k o) = if R k o = 0 then nI (ap k o) else if R k o < 0 then -R k o else R k o) {fr : Nat} {set many al : AV} {m6 : AV}
    (hcomp : ∀ (k o : Nat) (X1 : XT) (v : OUT) (Z : XT) (z8 z9 : AV), k < n → o < n → Fr [39, 40] X X1 → (∀ z8, Ev sc (d + 4) 112 41 [vR 30 0 0, vI (nI i), vI (nI fr), set, many, al, vI (nI k), vI (nI o), z8, z9] [vI (R k o)] X1 v Z 0) → Ev sc (d + 4) 112 30 [vR 30 0 0, vI (nI i), vI (nI fr), set, many, al, vI (nI k), vI (nI o), z8, z9] [] X1 v Z 0) {v : OUT} :
    ∃ X', NXT X X' n rk ap R apn n 0 ∧ ∀ Z, (∀ z7 z8 z9, Ev sc (d + 4) 112 51 [vR 30 0 0, vI (nI i), vI (nI fr), set, many, al, vI (nI n), z7, z8, z9] [] X' v Z 0) → ∀ z7 z8 z9, Ev sc (d + 4) 112 26 [vR 30 0 0, vI (nI i), vI (nI fr), set, many, al, m6, z7, z8, z9] [] X v Z 0 := by
  have h0 := h
  obtain ⟨⟨h1, h2, h3, h4⟩, h5, h6, h7⟩ := h
  have vi : vp_in (nI i) 6 := vpn (by omega) (by decide)
  -- one row
  have row : ∀ k, k < n → ∀ q, q ≤ n → ∀ (X1 : XT), NXT X X1 n rk ap R apn k q → X1.1 39 0 0 (nI k) = nI (rk k + ct (fun o => decide (R k o < 0)) q) →
      ∃ X', NXT X X' n rk ap R apn (k + 1) 0 ∧ ∀ Z, (∀ z7 z8 z9, Ev sc (d + 4) 112 50 [vR 30 0 0, vI (nI i), vI (nI fr), set, many, al, vI (nI k), z7, z8, z9] [] X' v Z 0) → ∀ z8 z9, Ev sc (d + 4) 112 29 [vR 30 0 0, vI (nI i), vI (nI fr), set, many, al, vI (nI k), vI (nI q), z8, z9] [] X1 v Z 0 := by
    intro k hk
    apply loop_up
    · intro X1 hN hr
      have s1 := h0.fr hN.1 (by decide) (by decide) (by decide)
      refine ⟨X1, ⟨hN.1, fun k' hk' => ?_, fun k' o hk' ho => ?_, fun w => absurd w (by omega)⟩, fun Z hn z8 z9 => ?_⟩
      · by_cases hkk : k' = k
        · rw [hkk]; exact hr
        · exact hN.2.1 k' (by omega)
      · rw [hN.2.2.1 k' o hk' ho]
        by_cases hkk : k' ≤ k
        · rw [if_pos (by omega), if_pos (by omega)]
        · rw [if_neg (by omega), if_neg (by omega)]
      · refine ev_seg rfl ?_
        simp only [TE, sxs, sx, ldI, ldA, stI, stA, inc, gtF, ptF, ldX, stX, ldR, ldL, stL, dp1, dp2, Tm, kS0, kS1, kS2, kS3, kS4, kS5, kS6, kS7, kS8, kS9, kS10, kS11, kS12, kS13, kS14, kS15, kS16, kS17, kS18, kS19, kS20, kS21, kS22, kS23, kS24, kS25, kS26, kS27, kS28, kS30, kS31, kS32, kS33, kS34, kS35, kS36, kS37, kS38, kS39, kS40, kS41, kS42, kS43, kS51, kS52, kS53, List.getElem?_cons_zero, List.getElem?_cons_succ, List.set_cons_zero, List.set_cons_succ, List.length_cons, List.length_nil, List.drop_succ_cons, List.drop_zero, List.cons_append, List.nil_append, Option.toList_some, Option.toList_none, cz, ci2, true_and, and_true, and_self, true_or, or_true, nI_1, Nat.reduceAdd, Nat.reduceLT, s1.2.2.1]
        exact ⟨(by first | assumption | (and_intros <;> first | assumption | trivial | decide)), fun _ => hn _ _ _, fun w => absurd (nleI (Nat.le_refl _) (by omega)) w⟩
    · intro q hq ih X1 hN hr
      have s1 := h0.fr hN.1 (by decide) (by decide) (by decide)
      have vk : vp_in (nI k) 5 := vpn (by omega) (by decide)
      have vq : vp_in (nI (5 * k + q)) 25 := vpn (by omega) (by decide)
      have e5 : (5 : Int32) * nI k + nI q = nI (5 * k + q) := by rw [show (5 : Int32) = nI 5 from rfl, nI_ml, nI_ad]
      generalize hX2 : ((xs X1.1 39 0 0 (nI k) (nI (rk k + ct (fun o => decide (R k o < 0)) (q + 1))), X1.2) : XT) = X2
      have f2 : Fr [39] X1 X2 := by rw [← hX2]; exact Fr.xs _ _ _ _ _ (List.mem_singleton.mpr rfl)
      generalize hX3 : ((xs X2.1 40 0 0 (nI (5 * k + q)) (nI (apn k q)), X2.2) : XT) = X3
      have f3 : Fr [40] X2 X3 := by rw [← hX3]; exact Fr.xs _ _ _ _ _ (List.mem_singleton.mpr rfl)
      have r40 : X2.1 40 0 0 (nI (5 * k + q)) = nI (ap k q) := by
        rw [f2.at 40 (by decide), hN.2.2.1 k q hk hq, if_neg (by omega)]
      have r39 : X3.1 39 0 0 (nI k) = nI (rk k + ct (fun o => decide (R k o < 0)) (q + 1)) := by
        rw [f3.at 39 (by decide), ← hX2]
        exact xs_self _ _ _ _ _ _
      obtain ⟨X', a1, a2⟩ := ih X3 ⟨hN.1.tr ((f2.mo (by decide)).tr (f3.mo (by decide))), fun k' hk' => by
          rw [f3.at 39 (by decide), ← hX2]
          show xs X1.1 39 0 0 (nI k) _ 39 0 0 (nI k') = _
          rw [xs_nj _ _ _ _ _ (fun w => by have := nI_inj (by omega) (by omega) w; omega)]
          exact hN.2.1 k' hk', fun k' o hk' ho => by
          rw [← hX3]
          show xs X2.1 40 0 0 (nI (5 * k + q)) _ 40 0 0 (nI (5 * k' + o)) = _
          by_cases hko : k' = k ∧ o = q
          · rw [hko.1, hko.2, xs_self, if_pos (by omega)]
          · rw [xs_nj _ _ _ _ _ (fun w => hko (by have := nI_inj (by omega) (by omega) w; omega)), f2.at 40 (by decide), hN.2.2.1 k' o hk' ho]
            by_cases hc : k' < k ∨ (k' = k ∧ o < q)
            · rw [if_pos hc, if_pos (by omega)]
            · rw [if_neg hc, if_neg (by omega)], fun _ => r39⟩ r39
      refine ⟨X', a1, fun Z hn z8 z9 => ?_⟩
      have a2 := a2 Z hn
      refine ev_seg rfl ?_
      simp only [TE, sxs, sx, ldI, ldA, stI, stA, inc, gtF, ptF, ldX, stX, ldR, ldL, stL, dp1, dp2, Tm, kS0, kS1, kS2, kS3, kS4, kS5, kS6, kS7, kS8, kS9, kS10, kS11, kS12, kS13, kS14, kS15, kS16, kS17, kS18, kS19, kS20, kS21, kS22, kS23, kS24, kS25, kS26, kS27, kS28, kS30, kS31, kS32, kS33, kS34, kS35, kS36, kS37, kS38, kS39, kS40, kS41, kS42, kS43, kS51, kS52, kS53, List.getElem?_cons_zero, List.getElem?_cons_succ, List.set_cons_zero, List.set_cons_succ, List.length_cons, List.length_nil, List.drop_succ_cons, List.drop_zero, List.cons_append, List.nil_append, Option.toList_some, Option.toList_none, cz, ci2, true_and, and_true, and_self, true_or, or_true, nI_1, Nat.reduceAdd, Nat.reduceLT, s1.2.2.1]
      refine ⟨(by first | assumption | (and_intros <;> first | assumption | trivial | decide)), fun w => absurd w (nle hq (by omega)), fun _ => hcomp k q X1 v Z _ _ hk hq hN.1 fun z8' => ?_⟩
      have t49 : Ev sc (d + 4) 112 49 [vR 30 0 0, vI (nI i), vI (nI fr), set, many, al, vI (nI k), vI (nI q), z8', vI (R k q)] [vI (nI (apn k q)), vI (nI (5 * k + q)), vR 40 0 0] X2 v Z 0 := by
        refine ev_seg rfl ?_
        simp only [TE, sxs, sx, ldI, ldA, stI, stA, inc, gtF, ptF, ldX, stX, ldR, ldL, stL, dp1, dp2, Tm, kS0, kS1, kS2, kS3, kS4, kS5, kS6, kS7, kS8, kS9, kS10, kS11, kS12, kS13, kS14, kS15, kS16, kS17, kS18, kS19, kS20, kS21, kS22, kS23, kS24, kS25, kS26, kS27, kS28, kS30, kS31, kS32, kS33, kS34, kS35, kS36, kS37, kS38, kS39, kS40, kS41, kS42, kS43, kS51, kS52, kS53, List.getElem?_cons_zero, List.getElem?_cons_succ, List.set_cons_zero, List.set_cons_succ, List.length_cons, List.length_nil, List.drop_succ_cons, List.drop_zero, List.cons_append, List.nil_append, Option.toList_some, Option.toList_none, cz, ci2, true_and, and_true, and_self, true_or, or_true, nI_1, Nat.reduceAdd, Nat.reduceLT]
        rw [hX3]
        exact ⟨(by first | assumption | (and_intros <;> first | assumption | trivial | decide)), a2 _ _⟩
      have t44 : Ev sc (d + 4) 112 44 [vR 30 0 0, vI (nI i), vI (nI fr), set, many, al, vI (nI k), vI (nI q), z8', vI (R k q)] [vI (if R k q < 0 then 1 else 0), vI (X1.1 39 0 0 (nI k)), vI (nI k), vR 39 0 0] X1 v Z 0 := by
        have ev : X1.1 39 0 0 (nI k) + (if R k q < 0 then 1 else 0) = nI (rk k + ct (fun o => decide (R k o < 0)) (q + 1)) := by
          rw [hr, ct]
          by_cases hc : R k q < 0
          · rw [if_pos hc, if_pos (by rw [decide_eq_true_eq]; exact hc), ← Nat.add_assoc]
            exact nI_ad _ 1
          · rw [if_neg hc, if_neg (by rw [decide_eq_true_eq]; exact hc), Int32.add_zero, Nat.add_zero]
        have hap := hA k q hk hq
        refine ev_seg rfl ?_
        simp only [TE, sxs, sx, ldI, ldA, stI, stA, inc, gtF, ptF, ldX, stX, ldR, ldL, stL, dp1, dp2, Tm, kS0, kS1, kS2, kS3, kS4, kS5, kS6, kS7, kS8, kS9, kS10, kS11, kS12, kS13, kS14, kS15, kS16, kS17, kS18, kS19, kS20, kS21, kS22, kS23, kS24, kS25, kS26, kS27, kS28, kS30, kS31, kS32, kS33, kS34, kS35, kS36, kS37, kS38, kS39, kS40, kS41, kS42, kS43, kS51, kS52, kS53, List.getElem?_cons_zero, List.getElem?_cons_succ, List.set_cons_zero, List.set_cons_succ, List.length_cons, List.length_nil, List.drop_succ_cons, List.drop_zero, List.cons_append, List.nil_append, Option.toList_some, Option.toList_none, cz, ci2, true_and, and_true, and_self, true_or, or_true, nI_1, Nat.reduceAdd, Nat.reduceLT, ev, e5]
        rw [hX2]
        refine ⟨(by first | assumption | (and_intros <;> first | assumption | trivial | decide)), fun w => ?_, fun w => ?_⟩
        · rw [if_neg w] at hap
          refine ev_seg rfl ?_
          simp only [TE, sxs, sx, ldI, ldA, stI, stA, inc, gtF, ptF, ldX, stX, ldR, ldL, stL, dp1, dp2, Tm, kS0, kS1, kS2, kS3, kS4, kS5, kS6, kS7, kS8, kS9, kS10, kS11, kS12, kS13, kS14, kS15, kS16, kS17, kS18, kS19, kS20, kS21, kS22, kS23, kS24, kS25, kS26, kS27, kS28, kS30, kS31, kS32, kS33, kS34, kS35, kS36, kS37, kS38, kS39, kS40, kS41, kS42, kS43, kS51, kS52, kS53, List.getElem?_cons_zero, List.getElem?_cons_succ, List.set_cons_zero, List.set_cons_succ, List.length_cons, List.length_nil, List.drop_succ_cons, List.drop_zero, List.cons_append, List.nil_append, Option.toList_some, Option.toList_none, cz, ci2, true_and, and_true, and_self, true_or, or_true, nI_1, Nat.reduceAdd, Nat.reduceLT]
          refine ⟨fun w2 => ?_, fun w2 => ?_⟩
          · rw [if_neg (i_nlt w2)] at hap
            rw [hap] at t49
            refine ev_seg rfl ?_
            simp only [TE, sxs, sx, ldI, ldA, stI, stA, inc, gtF, ptF, ldX, stX, ldR, ldL, stL, dp1, dp2, Tm, kS0, kS1, kS2, kS3, kS4, kS5, kS6, kS7, kS8, kS9, kS10, kS11, kS12, kS13, kS14, kS15, kS16, kS17, kS18, kS19, kS20, kS21, kS22, kS23, kS24, kS25, kS26, kS27, kS28, kS30, kS31, kS32, kS33, kS34, kS35, kS36, kS37, kS38, kS39, kS40, kS41, kS42, kS43, kS51, kS52, kS53, List.getElem?_cons_zero, List.getElem?_cons_succ, List.set_cons_zero, List.set_cons_succ, List.length_cons, List.length_nil, List.drop_succ_cons, List.drop_zero, List.cons_append, List.nil_append, Option.toList_some, Option.toList_none, cz, ci2, true_and, and_true, and_self, true_or, or_true, nI_1, Nat.reduceAdd, Nat.reduceLT]
            exact t49
          · rw [if_pos (i_lt w2)] at hap
            rw [hap] at t49
            refine ev_seg rfl ?_
            simp only [TE, sxs, sx, ldI, ldA, stI, stA, inc, gtF, ptF, ldX, stX, ldR, ldL, stL, dp1, dp2, Tm, kS0, kS1, kS2, kS3, kS4, kS5, kS6, kS7, kS8, kS9, kS10, kS11, kS12, kS13, kS14, kS15, kS16, kS17, kS18, kS19, kS20, kS21, kS22, kS23, kS24, kS25, kS26, kS27, kS28, kS30, kS31, kS32, kS33, kS34, kS35, kS36, kS37, kS38, kS39, kS40, kS41, kS42, kS43, kS51, kS52, kS53, List.getElem?_cons_zero, List.getElem?_cons_succ, List.set_cons_zero, List.set_cons_succ, List.length_cons, List.length_nil, List.drop_succ_cons, List.drop_zero, List.cons_append, List.nil_append, Option.toList_some, Option.toList_none, cz, ci2, true_and, and_true, and_self, true_or, or_true, nI_1, Nat.reduceAdd, Nat.reduceLT]
            exact t49
        · rw [if_pos (Classical.not_not.mp w)] at hap
          refine ev_seg rfl ?_
          simp only [TE, sxs, sx, ldI, ldA, stI, stA, inc, gtF, ptF, ldX, stX, ldR, ldL, stL, dp1, dp2, Tm, kS0, kS1, kS2, kS3, kS4, kS5, kS6, kS7, kS8, kS9, kS10, kS11, kS12, kS13, kS14, kS15, kS16, kS17, kS18, kS19, kS20, kS21, kS22, kS23, kS24, kS25, kS26, kS27, kS28, kS30, kS31, kS32, kS33, kS34, kS35, kS36, kS37, kS38, kS39, kS40, kS41, kS42, kS43, kS51, kS52, kS53, List.getElem?_cons_zero, List.getElem?_cons_succ, List.set_cons_zero, List.set_cons_succ, List.length_cons, List.length_nil, List.drop_succ_cons, List.drop_zero, List.cons_append, List.nil_append, Option.toList_some, Option.toList_none, cz, ci2, true_and, and_true, and_self, true_or, or_true, nI_1, Nat.reduceAdd, Nat.reduceLT, r40, e5]
          rw [← hap]
          exact ⟨(by first | assumption | (and_intros <;> first | assumption | trivial | decide)), t49⟩
      refine ev_seg rfl ?_
      simp only [TE, sxs, sx, ldI, ldA, stI, stA, inc, gtF, ptF, ldX, stX, ldR, ldL, stL, dp1, dp2, Tm, kS0, kS1, kS2, kS3, kS4, kS5, kS6, kS7, kS8, kS9, kS10, kS11, kS12, kS13, kS14, kS15, kS16, kS17, kS18, kS19, kS20, kS21, kS22, kS23, kS24, kS25, kS26, kS27, kS28, kS30, kS31, kS32, kS33, kS34, kS35, kS36, kS37, kS38, kS39, kS40, kS41, kS42, kS43, kS51, kS52, kS53, List.getElem?_cons_zero, List.getElem?_cons_succ, List.set_cons_zero, List.set_cons_succ, List.length_cons, List.length_nil, List.drop_succ_cons, List.drop_zero, List.cons_append, List.nil_append, Option.toList_some, Option.toList_none, cz, ci2, true_and, and_true, and_self, true_or, or_true, nI_1, Nat.reduceAdd, Nat.reduceLT]
      refine ⟨(by first | assumption | (and_intros <;> first | assumption | trivial | decide)), fun w => ?_, fun w => ?_⟩
      · rw [if_neg (i_nlt w)] at t44
        refine ev_seg rfl ?_
        simp only [TE, sxs, sx, ldI, ldA, stI, stA, inc, gtF, ptF, ldX, stX, ldR, ldL, stL, dp1, dp2, Tm, kS0, kS1, kS2, kS3, kS4, kS5, kS6, kS7, kS8, kS9, kS10, kS11, kS12, kS13, kS14, kS15, kS16, kS17, kS18, kS19, kS20, kS21, kS22, kS23, kS24, kS25, kS26, kS27, kS28, kS30, kS31, kS32, kS33, kS34, kS35, kS36, kS37, kS38, kS39, kS40, kS41, kS42, kS43, kS51, kS52, kS53, List.getElem?_cons_zero, List.getElem?_cons_succ, List.set_cons_zero, List.set_cons_succ, List.length_cons, List.length_nil, List.drop_succ_cons, List.drop_zero, List.cons_append, List.nil_append, Option.toList_some, Option.toList_none, cz, ci2, true_and, and_true, and_self, true_or, or_true, nI_1, Nat.reduceAdd, Nat.reduceLT]
        exact t44
      · rw [if_pos (i_lt w)] at t44
        refine ev_seg rfl ?_
        simp only [TE, sxs, sx, ldI, ldA, stI, stA, inc, gtF, ptF, ldX, stX, ldR, ldL, stL, dp1, dp2, Tm, kS0, kS1, kS2, kS3, kS4, kS5, kS6, kS7, kS8, kS9, kS10, kS11, kS12, kS13, kS14, kS15, kS16, kS17, kS18, kS19, kS20, kS21, kS22, kS23, kS24, kS25, kS26, kS27, kS28, kS30, kS31, kS32, kS33, kS34, kS35, kS36, kS37, kS38, kS39, kS40, kS41, kS42, kS43, kS51, kS52, kS53, List.getElem?_cons_zero, List.getElem?_cons_succ, List.set_cons_zero, List.set_cons_succ, List.length_cons, List.length_nil, List.drop_succ_cons, List.drop_zero, List.cons_append, List.nil_append, Option.toList_some, Option.toList_none, cz, ci2, true_and, and_true, and_self, true_or, or_true, nI_1, Nat.reduceAdd, Nat.reduceLT]
        exact t44
  have rows : ∀ k, k ≤ n → ∀ X1 : XT, NXT X X1 n rk ap R apn k 0 → ∃ X', NXT X X' n rk ap R apn n 0 ∧ ∀ Z, (∀ z7 z8 z9, Ev sc (d + 4) 112 51 [vR 30 0 0, vI (nI i), vI (nI fr), set, many, al, vI (nI n), z7, z8, z9] [] X' v Z 0) → ∀ z7 z8 z9, Ev sc (d + 4) 112 27 [vR 30 0 0, vI (nI i), vI (nI fr), set, many, al, vI (nI k), z7, z8, z9] [] X1 v Z 0 := by
    apply loop_up
    · intro X1 hN
      have s1 := h0.fr hN.1 (by decide) (by decide) (by decide)
      refine ⟨X1, hN, fun Z hn z7 z8 z9 => ?_⟩
      refine ev_seg rfl ?_
      simp only [TE, sxs, sx, ldI, ldA, stI, stA, inc, gtF, ptF, ldX, stX, ldR, ldL, stL, dp1, dp2, Tm, kS0, kS1, kS2, kS3, kS4, kS5, kS6, kS7, kS8, kS9, kS10, kS11, kS12, kS13, kS14, kS15, kS16, kS17, kS18, kS19, kS20, kS21, kS22, kS23, kS24, kS25, kS26, kS27, kS28, kS30, kS31, kS32, kS33, kS34, kS35, kS36, kS37, kS38, kS39, kS40, kS41, kS42, kS43, kS51, kS52, kS53, List.getElem?_cons_zero, List.getElem?_cons_succ, List.set_cons_zero, List.set_cons_succ, List.length_cons, List.length_nil, List.drop_succ_cons, List.drop_zero, List.cons_append, List.nil_append, Option.toList_some, Option.toList_none, cz, ci2, true_and, and_true, and_self, true_or, or_true, nI_1, Nat.reduceAdd, Nat.reduceLT, s1.2.2.1]
      exact ⟨(by first | assumption | (and_intros <;> first | assumption | trivial | decide)), fun _ => hn _ _ _, fun w => absurd (nleI (Nat.le_refl _) (by omega)) w⟩
    · intro k hk ih X1 hN
      have s1 := h0.fr hN.1 (by decide) (by decide) (by decide)
      have vk : vp_in (nI k) 5 := vpn (by omega) (by decide)
      have r38 : X1.1 38 0 0 (nI k) = nI (rk k) := by rw [hN.1.at 38 (by decide)]; exact (hK.1 k hk).1
      generalize hX2 : ((xs X1.1 39 0 0 (nI k) (nI (rk k)), X1.2) : XT) = X2
      have f2 : Fr [39] X1 X2 := by rw [← hX2]; exact Fr.xs _ _ _ _ _ (List.mem_singleton.mpr rfl)
      have r39 : X2.1 39 0 0 (nI k) = nI (rk k + ct (fun o => decide (R k o < 0)) 0) := by
        rw [← hX2]
        exact xs_self _ _ _ _ _ _
      obtain ⟨X3, a1, a2⟩ := row k hk 0 (Nat.zero_le _) X2 ⟨hN.1.tr (f2.mo (by decide)), fun k' hk' => by
        rw [← hX2]
        show xs X1.1 39 0 0 (nI k) _ 39 0 0 (nI k') = _
        rw [xs_nj _ _ _ _ _ (fun w => by have := nI_inj (by omega) (by omega) w; omega)]
        exact hN.2.1 k' hk', fun k' o hk' ho => by
        rw [f2.at 40 (by decide)]
        exact hN.2.2.1 k' o hk' ho, fun w => absurd w (by omega)⟩ r39
      obtain ⟨X', b1, b2⟩ := ih X3 a1
      refine ⟨X', b1, fun Z hn z7 z8 z9 => ?_⟩
      have b2 := b2 Z hn
      have a2 := a2 Z (fun z7 z8 z9 => by
        refine ev_seg rfl ?_
        simp only [TE, sxs, sx, ldI, ldA, stI, stA, inc, gtF, ptF, ldX, stX, ldR, ldL, stL, dp1, dp2, Tm, kS0, kS1, kS2, kS3, kS4, kS5, kS6, kS7, kS8, kS9, kS10, kS11, kS12, kS13, kS14, kS15, kS16, kS17, kS18, kS19, kS20, kS21, kS22, kS23, kS24, kS25, kS26, kS27, kS28, kS30, kS31, kS32, kS33, kS34, kS35, kS36, kS37, kS38, kS39, kS40, kS41, kS42, kS43, kS51, kS52, kS53, List.getElem?_cons_zero, List.getElem?_cons_succ, List.set_cons_zero, List.set_cons_succ, List.length_cons, List.length_nil, List.drop_succ_cons, List.drop_zero, List.cons_append, List.nil_append, Option.toList_some, Option.toList_none, cz, ci2, true_and, and_true, and_self, true_or, or_true, nI_1, Nat.reduceAdd, Nat.reduceLT]
        exact b2 _ _ _)
      refine ev_seg rfl ?_
      simp only [TE, sxs, sx, ldI, ldA, stI, stA, inc, gtF, ptF, ldX, stX, ldR, ldL, stL, dp1, dp2, Tm, kS0, kS1, kS2, kS3, kS4, kS5, kS6, kS7, kS8, kS9, kS10, kS11, kS12, kS13, kS14, kS15, kS16, kS17, kS18, kS19, kS20, kS21, kS22, kS23, kS24, kS25, kS26, kS27, kS28, kS30, kS31, kS32, kS33, kS34, kS35, kS36, kS37, kS38, kS39, kS40, kS41, kS42, kS43, kS51, kS52, kS53, List.getElem?_cons_zero, List.getElem?_cons_succ, List.set_cons_zero, List.set_cons_succ, List.length_cons, List.length_nil, List.drop_succ_cons, List.drop_zero, List.cons_append, List.nil_append, Option.toList_some, Option.toList_none, cz, ci2, true_and, and_true, and_self, true_or, or_true, nI_1, Nat.reduceAdd, Nat.reduceLT, s1.2.2.1]
      refine ⟨(by first | assumption | (and_intros <;> first | assumption | trivial | decide)), fun w => absurd w (nle hk (by omega)), fun _ => ?_⟩
      refine ev_seg rfl ?_
      simp only [TE, sxs, sx, ldI, ldA, stI, stA, inc, gtF, ptF, ldX, stX, ldR, ldL, stL, dp1, dp2, Tm, kS0, kS1, kS2, kS3, kS4, kS5, kS6, kS7, kS8, kS9, kS10, kS11, kS12, kS13, kS14, kS15, kS16, kS17, kS18, kS19, kS20, kS21, kS22, kS23, kS24, kS25, kS26, kS27, kS28, kS30, kS31, kS32, kS33, kS34, kS35, kS36, kS37, kS38, kS39, kS40, kS41, kS42, kS43, kS51, kS52, kS53, List.getElem?_cons_zero, List.getElem?_cons_succ, List.set_cons_zero, List.set_cons_succ, List.length_cons, List.length_nil, List.drop_succ_cons, List.drop_zero, List.cons_append, List.nil_append, Option.toList_some, Option.toList_none, cz, ci2, true_and, and_true, and_self, true_or, or_true, nI_1, Nat.reduceAdd, Nat.reduceLT, r38]
      rw [hX2]
      exact ⟨vk, a2 _ _⟩
  obtain ⟨X', a1, a2⟩ := rows 0 (Nat.zero_le _) X ⟨Fr.rf _ _, fun k' hk' => absurd hk' (by omega), fun k' o hk' ho => by rw [if_neg (by omega)]; exact (hK.2 k' o hk' ho).1, fun w => absurd w (by omega)⟩
  refine ⟨X', a1, fun Z hn z7 z8 z9 => ?_⟩
  have a2 := a2 Z hn
  refine ev_seg rfl ?_
  simp only [TE, sxs, sx, ldI, ldA, stI, stA, inc, gtF, ptF, ldX, stX, ldR, ldL, stL, dp1, dp2, Tm, kS0, kS1, kS2, kS3, kS4, kS5, kS6, kS7, kS8, kS9, kS10, kS11, kS12, kS13, kS14, kS15, kS16, kS17, kS18, kS19, kS20, kS21, kS22, kS23, kS24, kS25, kS26, kS27, kS28, kS30, kS31, kS32, kS33, kS34, kS35, kS36, kS37, kS38, kS39, kS40, kS41, kS42, kS43, kS51, kS52, kS53, List.getElem?_cons_zero, List.getElem?_cons_succ, List.set_cons_zero, List.set_cons_succ, List.length_cons, List.length_nil, List.drop_succ_cons, List.drop_zero, List.cons_append, List.nil_append, Option.toList_some, Option.toList_none, cz, ci2, true_and, and_true, and_self, true_or, or_true, nI_1, Nat.reduceAdd, Nat.reduceLT]
  exact a2 _ _ _
/-- the new ranks become the ranks -/
theorem sp5 (h : MS X i b n) {nr : Nat → Nat} {ap : Nat → Nat → Nat} (hN : ∀ k, k < n → X.1 39 0 0 (nI k) = nI (nr k) ∧ nr k < 100) (hA : ∀ k o, k < n → o < n → X.1 40 0 0 (nI (5 * k + o)) = nI (ap k o) ∧ ap k o < 100) {fr : Nat} {set al m6 : AV} {c : Nat} (hc : c < 100) :
    ∃ X', Fr [38] X X' ∧ RK X' n nr ap ∧ ∀ z7 z8 z9, Ev sc d 112 51 [vR 30 0 0, vI (nI i), vI (nI fr), set, vI (nI c), al, m6, z7, z8, z9] [] X (.inl (some (.inl (bI (1 < c))))) X' 0 := by
  have h0 := h
  obtain ⟨⟨h1, h2, h3, h4⟩, h5, h6, h7⟩ := h
  have vi : vp_in (nI i) 6 := vpn (by omega) (by decide)
  have loop : ∀ p, p ≤ n → ∀ X1 : XT, Fr [38] X X1 → (∀ k, k < p → X1.1 38 0 0 (nI k) = nI (nr k)) → ∃ X', Fr [38] X X' ∧ RK X' n nr ap ∧ ∀ z7 z8 z9, Ev sc d 112 52 [vR 30 0 0, vI (nI i), vI (nI fr), set, vI (nI c), al, vI (nI p), z7, z8, z9] [] X1 (.inl (some (.inl (bI (1 < c))))) X' 0 := by
    apply loop_up
    · intro X1 hf hr
      have s1 := h0.fr hf (by decide) (by decide) (by decide)
      refine ⟨X1, hf, ⟨fun k hk => ⟨hr k hk, (hN k hk).2⟩, fun k o hk ho => ⟨by rw [hf.at 40 (by decide)]; exact (hA k o hk ho).1, (hA k o hk ho).2⟩⟩, fun z7 z8 z9 => ?_⟩
      refine ev_seg rfl ?_
      simp only [TE, sxs, sx, ldI, ldA, stI, stA, inc, gtF, ptF, ldX, stX, ldR, ldL, stL, dp1, dp2, Tm, kS0, kS1, kS2, kS3, kS4, kS5, kS6, kS7, kS8, kS9, kS10, kS11, kS12, kS13, kS14, kS15, kS16, kS17, kS18, kS19, kS20, kS21, kS22, kS23, kS24, kS25, kS26, kS27, kS28, kS30, kS31, kS32, kS33, kS34, kS35, kS36, kS37, kS38, kS39, kS40, kS41, kS42, kS43, kS51, kS52, kS53, List.getElem?_cons_zero, List.getElem?_cons_succ, List.set_cons_zero, List.set_cons_succ, List.length_cons, List.length_nil, List.drop_succ_cons, List.drop_zero, List.cons_append, List.nil_append, Option.toList_some, Option.toList_none, cz, ci2, true_and, and_true, and_self, true_or, or_true, nI_1, Nat.reduceAdd, Nat.reduceLT, s1.2.2.1]
      refine ⟨(by first | assumption | (and_intros <;> first | assumption | trivial | decide)), fun _ => ?_, fun w => absurd (nleI (Nat.le_refl _) (by omega)) w⟩
      by_cases hc1 : 1 < c
      · rw [bI_t hc1]
        refine ev_seg rfl ?_
        simp only [TE, sxs, sx, ldI, ldA, stI, stA, inc, gtF, ptF, ldX, stX, ldR, ldL, stL, dp1, dp2, Tm, kS0, kS1, kS2, kS3, kS4, kS5, kS6, kS7, kS8, kS9, kS10, kS11, kS12, kS13, kS14, kS15, kS16, kS17, kS18, kS19, kS20, kS21, kS22, kS23, kS24, kS25, kS26, kS27, kS28, kS30, kS31, kS32, kS33, kS34, kS35, kS36, kS37, kS38, kS39, kS40, kS41, kS42, kS43, kS51, kS52, kS53, List.getElem?_cons_zero, List.getElem?_cons_succ, List.set_cons_zero, List.set_cons_succ, List.length_cons, List.length_nil, List.drop_succ_cons, List.drop_zero, List.cons_append, List.nil_append, Option.toList_some, Option.toList_none, cz, ci2, true_and, and_true, and_self, true_or, or_true, nI_1, Nat.reduceAdd, Nat.reduceLT]
        refine ⟨fun w => absurd w (nle (a := 1) hc1 (by omega)), fun _ => ?_⟩
        refine ev_seg rfl ?_
        simp only [TE, sxs, sx, ldI, ldA, stI, stA, inc, gtF, ptF, ldX, stX, ldR, ldL, stL, dp1, dp2, Tm, kS0, kS1, kS2, kS3, kS4, kS5, kS6, kS7, kS8, kS9, kS10, kS11, kS12, kS13, kS14, kS15, kS16, kS17, kS18, kS19, kS20, kS21, kS22, kS23, kS24, kS25, kS26, kS27, kS28, kS30, kS31, kS32, kS33, kS34, kS35, kS36, kS37, kS38, kS39, kS40, kS41, kS42, kS43, kS51, kS52, kS53, List.getElem?_cons_zero, List.getElem?_cons_succ, List.set_cons_zero, List.set_cons_succ, List.length_cons, List.length_nil, List.drop_succ_cons, List.drop_zero, List.cons_append, List.nil_append, Option.toList_some, Option.toList_none, cz, ci2, true_and, and_true, and_self, true_or, or_true, nI_1, Nat.reduceAdd, Nat.reduceLT]
        refine ev_seg rfl ?_
        simp only [TE, sxs, sx, ldI, ldA, stI, stA, inc, gtF, ptF, ldX, stX, ldR, ldL, stL, dp1, dp2, Tm, kS0, kS1, kS2, kS3, kS4, kS5, kS6, kS7, kS8, kS9, kS10, kS11, kS12, kS13, kS14, kS15, kS16, kS17, kS18, kS19, kS20, kS21, kS22, kS23, kS24, kS25, kS26, kS27, kS28, kS30, kS31, kS32, kS33, kS34, kS35, kS36, kS37, kS38, kS39, kS40, kS41, kS42, kS43, kS51, kS52, kS53, List.getElem?_cons_zero, List.getElem?_cons_succ, List.set_cons_zero, List.set_cons_succ, List.length_cons, List.length_nil, List.drop_succ_cons, List.drop_zero, List.cons_append, List.nil_append, Option.toList_some, Option.toList_none, cz, ci2, true_and, and_true, and_self, true_or, or_true, nI_1, Nat.reduceAdd, Nat.reduceLT]
      · rw [bI_f hc1]
        refine ev_seg rfl ?_
        simp only [TE, sxs, sx, ldI, ldA, stI, stA, inc, gtF, ptF, ldX, stX, ldR, ldL, stL, dp1, dp2, Tm, kS0, kS1, kS2, kS3, kS4, kS5, kS6, kS7, kS8, kS9, kS10, kS11, kS12, kS13, kS14, kS15, kS16, kS17, kS18, kS19, kS20, kS21, kS22, kS23, kS24, kS25, kS26, kS27, kS28, kS30, kS31, kS32, kS33, kS34, kS35, kS36, kS37, kS38, kS39, kS40, kS41, kS42, kS43, kS51, kS52, kS53, List.getElem?_cons_zero, List.getElem?_cons_succ, List.set_cons_zero, List.set_cons_succ, List.length_cons, List.length_nil, List.drop_succ_cons, List.drop_zero, List.cons_append, List.nil_append, Option.toList_some, Option.toList_none, cz, ci2, true_and, and_true, and_self, true_or, or_true, nI_1, Nat.reduceAdd, Nat.reduceLT]
        refine ⟨fun _ => ?_, fun w => absurd (nleI (b := 1) (by omega) (by omega)) w⟩
        refine ev_seg rfl ?_
        simp only [TE, sxs, sx, ldI, ldA, stI, stA, inc, gtF, ptF, ldX, stX, ldR, ldL, stL, dp1, dp2, Tm, kS0, kS1, kS2, kS3, kS4, kS5, kS6, kS7, kS8, kS9, kS10, kS11, kS12, kS13, kS14, kS15, kS16, kS17, kS18, kS19, kS20, kS21, kS22, kS23, kS24, kS25, kS26, kS27, kS28, kS30, kS31, kS32, kS33, kS34, kS35, kS36, kS37, kS38, kS39, kS40, kS41, kS42, kS43, kS51, kS52, kS53, List.getElem?_cons_zero, List.getElem?_cons_succ, List.set_cons_zero, List.set_cons_succ, List.length_cons, List.length_nil, List.drop_succ_cons, List.drop_zero, List.cons_append, List.nil_append, Option.toList_some, Option.toList_none, cz, ci2, true_and, and_true, and_self, true_or, or_true, nI_1, Nat.reduceAdd, Nat.reduceLT]
        refine ev_seg rfl ?_
        simp only [TE, sxs, sx, ldI, ldA, stI, stA, inc, gtF, ptF, ldX, stX, ldR, ldL, stL, dp1, dp2, Tm, kS0, kS1, kS2, kS3, kS4, kS5, kS6, kS7, kS8, kS9, kS10, kS11, kS12, kS13, kS14, kS15, kS16, kS17, kS18, kS19, kS20, kS21, kS22, kS23, kS24, kS25, kS26, kS27, kS28, kS30, kS31, kS32, kS33, kS34, kS35, kS36, kS37, kS38, kS39, kS40, kS41, kS42, kS43, kS51, kS52, kS53, List.getElem?_cons_zero, List.getElem?_cons_succ, List.set_cons_zero, List.set_cons_succ, List.length_cons, List.length_nil, List.drop_succ_cons, List.drop_zero, List.cons_append, List.nil_append, Option.toList_some, Option.toList_none, cz, ci2, true_and, and_true, and_self, true_or, or_true, nI_1, Nat.reduceAdd, Nat.reduceLT]
    · intro p hp ih X1 hf hr
      have s1 := h0.fr hf (by decide) (by decide) (by decide)
      have vp : vp_in (nI p) 5 := vpn (by omega) (by decide)
      have r39 : X1.1 39 0 0 (nI p) = nI (nr p) := by rw [hf.at 39 (by decide)]; exact (hN p hp).1
      obtain ⟨X', a1, a2, a3⟩ := ih (xs X1.1 38 0 0 (nI p) (nI (nr p)), X1.2) (hf.tr (Fr.xs _ _ _ _ _ (List.mem_singleton.mpr rfl))) (fun k hk => by
        show xs X1.1 38 0 0 (nI p) _ 38 0 0 (nI k) = _
        by_cases hkp : k = p
        · rw [hkp, xs_self]
        · rw [xs_nj _ _ _ _ _ (fun w => hkp (nI_inj (by omega) (by omega) w))]
          exact hr k (by omega))
      refine ⟨X', a1, a2, fun z7 z8 z9 => ?_⟩
      refine ev_seg rfl ?_
      simp only [TE, sxs, sx, ldI, ldA, stI, stA, inc, gtF, ptF, ldX, stX, ldR, ldL, stL, dp1, dp2, Tm, kS0, kS1, kS2, kS3, kS4, kS5, kS6, kS7, kS8, kS9, kS10, kS11, kS12, kS13, kS14, kS15, kS16, kS17, kS18, kS19, kS20, kS21, kS22, kS23, kS24, kS25, kS26, kS27, kS28, kS30, kS31, kS32, kS33, kS34, kS35, kS36, kS37, kS38, kS39, kS40, kS41, kS42, kS43, kS51, kS52, kS53, List.getElem?_cons_zero, List.getElem?_cons_succ, List.set_cons_zero, List.set_cons_succ, List.length_cons, List.length_nil, List.drop_succ_cons, List.drop_zero, List.cons_append, List.nil_append, Option.toList_some, Option.toList_none, cz, ci2, true_and, and_true, and_self, true_or, or_true, nI_1, Nat.reduceAdd, Nat.reduceLT, s1.2.2.1]
      refine ⟨(by first | assumption | (and_intros <;> first | assumption | trivial | decide)), fun w => absurd w (nle hp (by omega)), fun _ => ?_⟩
      refine ev_seg rfl ?_
      simp only [TE, sxs, sx, ldI, ldA, stI, stA, inc, gtF, ptF, ldX, stX, ldR, ldL, stL, dp1, dp2, Tm, kS0, kS1, kS2, kS3, kS4, kS5, kS6, kS7, kS8, kS9, kS10, kS11, kS12, kS13, kS14, kS15, kS16, kS17, kS18, kS19, kS20, kS21, kS22, kS23, kS24, kS25, kS26, kS27, kS28, kS30, kS31, kS32, kS33, kS34, kS35, kS36, kS37, kS38, kS39, kS40, kS41, kS42, kS43, kS51, kS52, kS53, List.getElem?_cons_zero, List.getElem?_cons_succ, List.set_cons_zero, List.set_cons_succ, List.length_cons, List.length_nil, List.drop_succ_cons, List.drop_zero, List.cons_append, List.nil_append, Option.toList_some, Option.toList_none, cz, ci2, true_and, and_true, and_self, true_or, or_true, nI_1, Nat.reduceAdd, Nat.reduceLT, r39]
      exact ⟨vp, a3 _ _ _⟩
  obtain ⟨X', a1, a2, a3⟩ := loop 0 (Nat.zero_le _) X (Fr.rf _ _) (fun k hk => absurd hk (by omega))
  refine ⟨X', a1, a2, fun z7 z8 z9 => ?_⟩
  refine ev_seg rfl ?_
  simp only [TE, sxs, sx, ldI, ldA, stI, stA, inc, gtF, ptF, ldX, stX, ldR, ldL, stL, dp1, dp2, Tm, kS0, kS1, kS2, kS3, kS4, kS5, kS6, kS7, kS8, kS9, kS10, kS11, kS12, kS13, kS14, kS15, kS16, kS17, kS18, kS19, kS20, kS21, kS22, kS23, kS24, kS25, kS26, kS27, kS28, kS30, kS31, kS32, kS33, kS34, kS35, kS36, kS37, kS38, kS39, kS40, kS41, kS42, kS43, kS51, kS52, kS53, List.getElem?_cons_zero, List.getElem?_cons_succ, List.set_cons_zero, List.set_cons_succ, List.length_cons, List.length_nil, List.drop_succ_cons, List.drop_zero, List.cons_append, List.nil_append, Option.toList_some, Option.toList_none, cz, ci2, true_and, and_true, and_self, true_or, or_true, nI_1, Nat.reduceAdd, Nat.reduceLT]
  exact a3 _ _ _
end Ms2
