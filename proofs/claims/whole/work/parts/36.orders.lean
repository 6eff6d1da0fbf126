/-! the reference: ordering a group -/
section Mor
variable {sc : SC} {d : Nat} {X : XT} {i b n : Nat}
theorem KM_fr {K : List Nat} {X' : XT} (hf : Fr K X X') (h5 : 35 ∉ K) (h6 : 36 ∉ K) (h7 : 37 ∉ K) : KM X' b n = KM X b n := by
  funext a c
  unfold KM
  rw [scM_fr hf h7, caM_fr hf h5, loM_fr hf h6]
theorem PM_fr {K : List Nat} {X' : XT} (hf : Fr K X X') (h4 : 34 ∉ K) (h7 : 37 ∉ K) : PM X' b n = PM X b n := by
  funext a
  unfold PM
  rw [scM_fr hf h7, awM_fr hf h4]
theorem MV.lots (hV : MV X b n) (h4 : n ≤ 5 ∧ b + n ≤ 30) : ∀ a a', a < n → a' < n → a ≠ a' → ¬ fa (KM X b n a) (KM X b n a') 4 = 4 := by
  intro a a' ha ha' hne hf
  have := fa_all.mp hf 3 (by decide)
  obtain ⟨l, l1, l2⟩ := hV.2.2.2.2 a ha
  obtain ⟨l', l1', l2'⟩ := hV.2.2.2.2 a' ha'
  have hneg : ∀ x : Nat, -nI x = zI (-x) := fun x => by rw [zI_n]; exact (Int32.ofInt_neg _).symm
  have hlot : ∀ (l a : Nat), -(nI l * 6 * 5 + nI b + nI a) = zI (-(30 * l + b + a : Nat)) := by
    intro l a
    rw [show (6 : Int32) = nI 6 from rfl, show (5 : Int32) = nI 5 from rfl, nI_ml, nI_ml, nI_ad, nI_ad, hneg]
    congr 3
    omega
  have k1 : KM X b n a 3 = zI (-(30 * l + b + a : Nat)) := by show -(loM X b a * 6 * 5 + nI b + nI a) = _; rw [l2, hlot]
  have k2 : KM X b n a' 3 = zI (-(30 * l' + b + a' : Nat)) := by show -(loM X b a' * 6 * 5 + nI b + nI a') = _; rw [l2', hlot]
  rw [k1, k2, zI_inj (by omega) (by omega) (by omega) (by omega)] at this
  omega
theorem betB_1 (x y : Int32) : betB (fun _ => x) (fun _ => y) 1 = decide (y < x) := by
  rw [Bool.eq_iff_iff, betB_iff, decide_eq_true_eq]
  have := fa_le (fun _ => x) (fun _ => y) 1
  constructor
  · exact fun w => w.2
  · intro w
    refine ⟨?_, w⟩
    refine Classical.byContradiction fun h => ?_
    have := fa_all.mp (show fa (fun _ => x) (fun _ => y) 1 = 1 by omega) 0 (by decide)
    rw [this] at w
    exact i_irr _ w
theorem or_init (h : MS X i b n) (hS : SY (scM X b) n) :
    ∃ X', Fr [38, 40] X X' ∧ RK X' n (kap (fun z _ => PM X b n z) 1 (fun _ => true) n) (fun _ _ => 0) ∧ ∀ o Z, (∀ z3, Ev sc (d + 4) 113 11 [vR 30 0 0, vI (nI i), vI (nI n), z3] [] X' o Z 0) → Ev sc (d + 4) 113 0 (ent 113 [vR 30 0 0, vI (nI i)]) [] X o Z 0 := by
  have h0 := h
  obtain ⟨⟨h1, h2, h3, h4⟩, h5, h6, h7⟩ := h
  have vi : vp_in (nI i) 6 := vpn (by omega) (by decide)
  have hct9 : ∀ p q, q ≤ n → ct p q < 100 := fun p q hq => by have := ct_le p q; omega
  have row : ∀ k, k < n → ∀ q, q ≤ n → ∀ (X1 : XT), Fr [38, 40] X X1 → (∀ k', k' < k → X1.1 38 0 0 (nI k') = nI (ct (fun o => decide (PM X b n k' < PM X b n o)) n)) → (∀ k' o, k' < k → o < n → X1.1 40 0 0 (nI (5 * k' + o)) = nI 0) → X1.1 38 0 0 (nI k) = nI (ct (fun o => decide (PM X b n k < PM X b n o)) q) → (∀ o, o < q → X1.1 40 0 0 (nI (5 * k + o)) = nI 0) →
      ∃ X', Fr [38, 40] X X' ∧ (∀ k', k' < k + 1 → X'.1 38 0 0 (nI k') = nI (ct (fun o => decide (PM X b n k' < PM X b n o)) n)) ∧ (∀ k' o, k' < k + 1 → o < n → X'.1 40 0 0 (nI (5 * k' + o)) = nI 0) ∧ ∀ o Z, (∀ z3, Ev sc (d + 4) 113 10 [vR 30 0 0, vI (nI i), vI (nI k), z3] [] X' o Z 0) → Ev sc (d + 4) 113 3 [vR 30 0 0, vI (nI i), vI (nI k), vI (nI q)] [] X1 o Z 0 := by
    intro k hk
    apply loop_up
    · intro X1 hf hr ha hrk hak
      have s1 := h0.fr hf (by decide) (by decide) (by decide)
      refine ⟨X1, hf, fun k' hk' => ?_, fun k' o hk' ho => ?_, fun o Z hn => ?_⟩
      · by_cases hkk : k' = k
        · rw [hkk]; exact hrk
        · exact hr k' (by omega)
      · by_cases hkk : k' = k
        · rw [hkk]; exact hak o ho
        · exact ha k' o (by omega) ho
      · refine ev_seg rfl ?_
        simp only [TE, sxs, sx, ldI, ldA, stI, stA, inc, gtF, ptF, ldX, stX, ldR, ldL, stL, dp1, dp2, Tm, kS0, kS1, kS2, kS3, kS4, kS5, kS6, kS7, kS8, kS9, kS10, kS11, kS12, kS13, kS14, kS15, kS16, kS17, kS18, kS19, kS20, kS21, kS22, kS23, kS24, kS25, kS26, kS27, kS28, kS30, kS31, kS32, kS33, kS34, kS35, kS36, kS37, kS38, kS39, kS40, kS41, kS42, kS43, kS51, kS52, kS53, List.getElem?_cons_zero, List.getElem?_cons_succ, List.set_cons_zero, List.set_cons_succ, List.length_cons, List.length_nil, List.drop_succ_cons, List.drop_zero, List.cons_append, List.nil_append, Option.toList_some, Option.toList_none, cz, ci2, true_and, and_true, and_self, true_or, or_true, nI_1, Nat.reduceAdd, Nat.reduceLT, s1.2.2.1]
        exact ⟨(by first | assumption | (and_intros <;> first | assumption | trivial | decide)), fun _ => hn _, fun w => absurd (nleI (Nat.le_refl _) (by omega)) w⟩
    · intro q hq ih X1 hf hr ha hrk hak
      have vk : vp_in (nI k) 5 := vpn (by omega) (by decide)
      have vq : vp_in (nI (5 * k + q)) 25 := vpn (by omega) (by decide)
      have e5 : (5 : Int32) * nI k + nI q = nI (5 * k + q) := by rw [show (5 : Int32) = nI 5 from rfl, nI_ml, nI_ad]
      generalize hX2 : ((xs X1.1 40 0 0 (nI (5 * k + q)) 0, X1.2) : XT) = X2
      have f2 : Fr [40] X1 X2 := by rw [← hX2]; exact Fr.xs _ _ _ _ _ (List.mem_singleton.mpr rfl)
      have F2 := hf.tr (f2.mo (by decide))
      generalize hX3 : ((xs X2.1 38 0 0 (nI k) (nI (ct (fun o => decide (PM X b n k < PM X b n o)) (q + 1))), X2.2) : XT) = X3
      have f3 : Fr [38] X2 X3 := by rw [← hX3]; exact Fr.xs _ _ _ _ _ (List.mem_singleton.mpr rfl)
      have s1 := h0.fr hf (by decide) (by decide) (by decide)
      have s2 := h0.fr F2 (by decide) (by decide) (by decide)
      have r38 : xs X1.1 40 0 0 (nI (5 * k + q)) 0 38 0 0 (nI k) = nI (ct (fun o => decide (PM X b n k < PM X b n o)) q) := by
        rw [show xs X1.1 40 0 0 (nI (5 * k + q)) 0 38 0 0 = X1.1 38 0 0 from xs_ne _ _ _ (by simp)]
        exact hrk
      have rb : xs X1.1 40 0 0 (nI (5 * k + q)) 0 31 0 0 (nI i) = nI b := by
        rw [show xs X1.1 40 0 0 (nI (5 * k + q)) 0 31 0 0 = X1.1 31 0 0 from xs_ne _ _ _ (by simp)]
        exact s1.2.1
      obtain ⟨X', a1, a2, a3, a4⟩ := ih X3 (F2.tr (f3.mo (by decide))) (fun k' hk' => by
        rw [← hX3]
        show xs X2.1 38 0 0 (nI k) _ 38 0 0 (nI k') = _
        rw [xs_nj _ _ _ _ _ (fun w => by have := nI_inj (by omega) (by omega) w; omega), f2.at 38 (by decide)]
        exact hr k' hk') (fun k' o hk' ho => by
        rw [f3.at 40 (by decide), ← hX2]
        show xs X1.1 40 0 0 (nI (5 * k + q)) _ 40 0 0 (nI (5 * k' + o)) = _
        rw [xs_nj _ _ _ _ _ (fun w => by have := nI_inj (by omega) (by omega) w; omega)]
        exact ha k' o hk' ho) (by
        rw [← hX3]
        exact xs_self _ _ _ _ _ _) (fun o ho => by
        rw [f3.at 40 (by decide), ← hX2]
        show xs X1.1 40 0 0 (nI (5 * k + q)) _ 40 0 0 (nI (5 * k + o)) = _
        by_cases hoq : o = q
        · rw [hoq, xs_self]
          rfl
        · rw [xs_nj _ _ _ _ _ (fun w => by have := nI_inj (by omega) (by omega) w; omega)]
          exact hak o (by omega))
      refine ⟨X', a1, a2, a3, fun o Z hn => ?_⟩
      have a4 := a4 o Z hn
      have pS : ∀ {X4 : XT}, Fr [38, 40] X X4 → ∀ {a : Nat}, a < n → Ev sc (d + 3) 109 0 (ent 109 [vR 30 0 0, vI (nI (b + a))]) [] X4 (.inl (some (.inl (PM X b n a)))) X4 0 := by
        intro X4 hf4 a ha
        have := s_MpointsOf (sc := sc) (d := d) (h0.fr hf4 (by decide) (by decide) (by decide)) (by rw [scM_fr hf4 (by decide)]; exact hS) ha
        rw [PM_fr hf4 (by decide) (by decide)] at this
        exact this
      refine ev_seg rfl ?_
      simp only [TE, sxs, sx, ldI, ldA, stI, stA, inc, gtF, ptF, ldX, stX, ldR, ldL, stL, dp1, dp2, Tm, kS0, kS1, kS2, kS3, kS4, kS5, kS6, kS7, kS8, kS9, kS10, kS11, kS12, kS13, kS14, kS15, kS16, kS17, kS18, kS19, kS20, kS21, kS22, kS23, kS24, kS25, kS26, kS27, kS28, kS30, kS31, kS32, kS33, kS34, kS35, kS36, kS37, kS38, kS39, kS40, kS41, kS42, kS43, kS51, kS52, kS53, List.getElem?_cons_zero, List.getElem?_cons_succ, List.set_cons_zero, List.set_cons_succ, List.length_cons, List.length_nil, List.drop_succ_cons, List.drop_zero, List.cons_append, List.nil_append, Option.toList_some, Option.toList_none, cz, ci2, true_and, and_true, and_self, true_or, or_true, nI_1, Nat.reduceAdd, Nat.reduceLT, s1.2.2.1]
      refine ⟨(by first | assumption | (and_intros <;> first | assumption | trivial | decide)), fun w => absurd w (nle hq (by omega)), fun _ => ?_⟩
      refine ev_seg rfl ?_
      simp only [TE, sxs, sx, ldI, ldA, stI, stA, inc, gtF, ptF, ldX, stX, ldR, ldL, stL, dp1, dp2, Tm, kS0, kS1, kS2, kS3, kS4, kS5, kS6, kS7, kS8, kS9, kS10, kS11, kS12, kS13, kS14, kS15, kS16, kS17, kS18, kS19, kS20, kS21, kS22, kS23, kS24, kS25, kS26, kS27, kS28, kS30, kS31, kS32, kS33, kS34, kS35, kS36, kS37, kS38, kS39, kS40, kS41, kS42, kS43, kS51, kS52, kS53, List.getElem?_cons_zero, List.getElem?_cons_succ, List.set_cons_zero, List.set_cons_succ, List.length_cons, List.length_nil, List.drop_succ_cons, List.drop_zero, List.cons_append, List.nil_append, Option.toList_some, Option.toList_none, cz, ci2, true_and, and_true, and_self, true_or, or_true, nI_1, Nat.reduceAdd, Nat.reduceLT, e5, r38, rb, nI_ad]
      rw [hX2]
      refine ⟨(by first | assumption | (and_intros <;> first | assumption | trivial | decide)), cv2 rfl rfl (by first | exact rfl | exact trivial) (pS F2 hq) ?_⟩
      refine ev_seg rfl ?_
      simp only [TE, sxs, sx, ldI, ldA, stI, stA, inc, gtF, ptF, ldX, stX, ldR, ldL, stL, dp1, dp2, Tm, kS0, kS1, kS2, kS3, kS4, kS5, kS6, kS7, kS8, kS9, kS10, kS11, kS12, kS13, kS14, kS15, kS16, kS17, kS18, kS19, kS20, kS21, kS22, kS23, kS24, kS25, kS26, kS27, kS28, kS30, kS31, kS32, kS33, kS34, kS35, kS36, kS37, kS38, kS39, kS40, kS41, kS42, kS43, kS51, kS52, kS53, List.getElem?_cons_zero, List.getElem?_cons_succ, List.set_cons_zero, List.set_cons_succ, List.length_cons, List.length_nil, List.drop_succ_cons, List.drop_zero, List.cons_append, List.nil_append, Option.toList_some, Option.toList_none, cz, ci2, true_and, and_true, and_self, true_or, or_true, nI_1, Nat.reduceAdd, Nat.reduceLT, s2.2.1, nI_ad]
      refine ⟨(by first | assumption | (and_intros <;> first | assumption | trivial | decide)), cv2 rfl rfl (by first | exact rfl | exact trivial) (pS F2 hk) ?_⟩
      by_cases hc : PM X b n k < PM X b n q
      · have e1 : ct (fun o => decide (PM X b n k < PM X b n o)) (q + 1) = ct (fun o => decide (PM X b n k < PM X b n o)) q + 1 := by
          rw [ct, if_pos (by rw [decide_eq_true_eq]; exact hc)]
        rw [e1] at hX3
        refine ev_seg rfl ?_
        simp only [TE, sxs, sx, ldI, ldA, stI, stA, inc, gtF, ptF, ldX, stX, ldR, ldL, stL, dp1, dp2, Tm, kS0, kS1, kS2, kS3, kS4, kS5, kS6, kS7, kS8, kS9, kS10, kS11, kS12, kS13, kS14, kS15, kS16, kS17, kS18, kS19, kS20, kS21, kS22, kS23, kS24, kS25, kS26, kS27, kS28, kS30, kS31, kS32, kS33, kS34, kS35, kS36, kS37, kS38, kS39, kS40, kS41, kS42, kS43, kS51, kS52, kS53, List.getElem?_cons_zero, List.getElem?_cons_succ, List.set_cons_zero, List.set_cons_succ, List.length_cons, List.length_nil, List.drop_succ_cons, List.drop_zero, List.cons_append, List.nil_append, Option.toList_some, Option.toList_none, cz, ci2, true_and, and_true, and_self, true_or, or_true, nI_1, Nat.reduceAdd, Nat.reduceLT]
        refine ⟨fun w => absurd hc (i_nlt w), fun _ => ?_⟩
        refine ev_seg rfl ?_
        simp only [TE, sxs, sx, ldI, ldA, stI, stA, inc, gtF, ptF, ldX, stX, ldR, ldL, stL, dp1, dp2, Tm, kS0, kS1, kS2, kS3, kS4, kS5, kS6, kS7, kS8, kS9, kS10, kS11, kS12, kS13, kS14, kS15, kS16, kS17, kS18, kS19, kS20, kS21, kS22, kS23, kS24, kS25, kS26, kS27, kS28, kS30, kS31, kS32, kS33, kS34, kS35, kS36, kS37, kS38, kS39, kS40, kS41, kS42, kS43, kS51, kS52, kS53, List.getElem?_cons_zero, List.getElem?_cons_succ, List.set_cons_zero, List.set_cons_succ, List.length_cons, List.length_nil, List.drop_succ_cons, List.drop_zero, List.cons_append, List.nil_append, Option.toList_some, Option.toList_none, cz, ci2, true_and, and_true, and_self, true_or, or_true, nI_1, Nat.reduceAdd, Nat.reduceLT]
        refine ev_seg rfl ?_
        simp only [TE, sxs, sx, ldI, ldA, stI, stA, inc, gtF, ptF, ldX, stX, ldR, ldL, stL, dp1, dp2, Tm, kS0, kS1, kS2, kS3, kS4, kS5, kS6, kS7, kS8, kS9, kS10, kS11, kS12, kS13, kS14, kS15, kS16, kS17, kS18, kS19, kS20, kS21, kS22, kS23, kS24, kS25, kS26, kS27, kS28, kS30, kS31, kS32, kS33, kS34, kS35, kS36, kS37, kS38, kS39, kS40, kS41, kS42, kS43, kS51, kS52, kS53, List.getElem?_cons_zero, List.getElem?_cons_succ, List.set_cons_zero, List.set_cons_succ, List.length_cons, List.length_nil, List.drop_succ_cons, List.drop_zero, List.cons_append, List.nil_append, Option.toList_some, Option.toList_none, cz, ci2, true_and, and_true, and_self, true_or, or_true, nI_1, Nat.reduceAdd, Nat.reduceLT]
        rw [hX3]
        exact ⟨(by first | assumption | (and_intros <;> first | assumption | trivial | decide)), a4⟩
      · have e1 : ct (fun o => decide (PM X b n k < PM X b n o)) (q + 1) = ct (fun o => decide (PM X b n k < PM X b n o)) q := by
          rw [ct, if_neg (by rw [decide_eq_true_eq]; exact hc), Nat.add_zero]
        rw [e1] at hX3
        refine ev_seg rfl ?_
        simp only [TE, sxs, sx, ldI, ldA, stI, stA, inc, gtF, ptF, ldX, stX, ldR, ldL, stL, dp1, dp2, Tm, kS0, kS1, kS2, kS3, kS4, kS5, kS6, kS7, kS8, kS9, kS10, kS11, kS12, kS13, kS14, kS15, kS16, kS17, kS18, kS19, kS20, kS21, kS22, kS23, kS24, kS25, kS26, kS27, kS28, kS30, kS31, kS32, kS33, kS34, kS35, kS36, kS37, kS38, kS39, kS40, kS41, kS42, kS43, kS51, kS52, kS53, List.getElem?_cons_zero, List.getElem?_cons_succ, List.set_cons_zero, List.set_cons_succ, List.length_cons, List.length_nil, List.drop_succ_cons, List.drop_zero, List.cons_append, List.nil_append, Option.toList_some, Option.toList_none, cz, ci2, true_and, and_true, and_self, true_or, or_true, nI_1, Nat.reduceAdd, Nat.reduceLT]
        refine ⟨fun _ => ?_, fun w => absurd (i_lt w) hc⟩
        refine ev_seg rfl ?_
        simp only [TE, sxs, sx, ldI, ldA, stI, stA, inc, gtF, ptF, ldX, stX, ldR, ldL, stL, dp1, dp2, Tm, kS0, kS1, kS2, kS3, kS4, kS5, kS6, kS7, kS8, kS9, kS10, kS11, kS12, kS13, kS14, kS15, kS16, kS17, kS18, kS19, kS20, kS21, kS22, kS23, kS24, kS25, kS26, kS27, kS28, kS30, kS31, kS32, kS33, kS34, kS35, kS36, kS37, kS38, kS39, kS40, kS41, kS42, kS43, kS51, kS52, kS53, List.getElem?_cons_zero, List.getElem?_cons_succ, List.set_cons_zero, List.set_cons_succ, List.length_cons, List.length_nil, List.drop_succ_cons, List.drop_zero, List.cons_append, List.nil_append, Option.toList_some, Option.toList_none, cz, ci2, true_and, and_true, and_self, true_or, or_true, nI_1, Nat.reduceAdd, Nat.reduceLT]
        refine ev_seg rfl ?_
        simp only [TE, sxs, sx, ldI, ldA, stI, stA, inc, gtF, ptF, ldX, stX, ldR, ldL, stL, dp1, dp2, Tm, kS0, kS1, kS2, kS3, kS4, kS5, kS6, kS7, kS8, kS9, kS10, kS11, kS12, kS13, kS14, kS15, kS16, kS17, kS18, kS19, kS20, kS21, kS22, kS23, kS24, kS25, kS26, kS27, kS28, kS30, kS31, kS32, kS33, kS34, kS35, kS36, kS37, kS38, kS39, kS40, kS41, kS42, kS43, kS51, kS52, kS53, List.getElem?_cons_zero, List.getElem?_cons_succ, List.set_cons_zero, List.set_cons_succ, List.length_cons, List.length_nil, List.drop_succ_cons, List.drop_zero, List.cons_append, List.nil_append, Option.toList_some, Option.toList_none, cz, ci2, true_and, and_true, and_self, true_or, or_true, nI_1, Nat.reduceAdd, Nat.reduceLT, Int32.add_zero]
        rw [hX3]
        exact ⟨(by first | assumption | (and_intros <;> first | assumption | trivial | decide)), a4⟩
  have rows : ∀ k, k ≤ n → ∀ X1 : XT, Fr [38, 40] X X1 → (∀ k', k' < k → X1.1 38 0 0 (nI k') = nI (ct (fun o => decide (PM X b n k' < PM X b n o)) n)) → (∀ k' o, k' < k → o < n → X1.1 40 0 0 (nI (5 * k' + o)) = nI 0) →
      ∃ X', Fr [38, 40] X X' ∧ (∀ k', k' < n → X'.1 38 0 0 (nI k') = nI (ct (fun o => decide (PM X b n k' < PM X b n o)) n)) ∧ (∀ k' o, k' < n → o < n → X'.1 40 0 0 (nI (5 * k' + o)) = nI 0) ∧ ∀ o Z, (∀ z3, Ev sc (d + 4) 113 11 [vR 30 0 0, vI (nI i), vI (nI n), z3] [] X' o Z 0) → ∀ z3, Ev sc (d + 4) 113 1 [vR 30 0 0, vI (nI i), vI (nI k), z3] [] X1 o Z 0 := by
    apply loop_up
    · intro X1 hf hr ha
      have s1 := h0.fr hf (by decide) (by decide) (by decide)
      refine ⟨X1, hf, hr, ha, fun o Z hn z3 => ?_⟩
      refine ev_seg rfl ?_
      simp only [TE, sxs, sx, ldI, ldA, stI, stA, inc, gtF, ptF, ldX, stX, ldR, ldL, stL, dp1, dp2, Tm, kS0, kS1, kS2, kS3, kS4, kS5, kS6, kS7, kS8, kS9, kS10, kS11, kS12, kS13, kS14, kS15, kS16, kS17, kS18, kS19, kS20, kS21, kS22, kS23, kS24, kS25, kS26, kS27, kS28, kS30, kS31, kS32, kS33, kS34, kS35, kS36, kS37, kS38, kS39, kS40, kS41, kS42, kS43, kS51, kS52, kS53, List.getElem?_cons_zero, List.getElem?_cons_succ, List.set_cons_zero, List.set_cons_succ, List.length_cons, List.length_nil, List.drop_succ_cons, List.drop_zero, List.cons_append, List.nil_append, Option.toList_some, Option.toList_none, cz, ci2, true_and, and_true, and_self, true_or, or_true, nI_1, Nat.reduceAdd, Nat.reduceLT, s1.2.2.1]
      exact ⟨(by first | assumption | (and_intros <;> first | assumption | trivial | decide)), fun _ => hn _, fun w => absurd (nleI (Nat.le_refl _) (by omega)) w⟩
    · intro k hk ih X1 hf hr ha
      have s1 := h0.fr hf (by decide) (by decide) (by decide)
      have vk : vp_in (nI k) 5 := vpn (by omega) (by decide)
      generalize hX2 : ((xs X1.1 38 0 0 (nI k) 0, X1.2) : XT) = X2
      have f2 : Fr [38] X1 X2 := by rw [← hX2]; exact Fr.xs _ _ _ _ _ (List.mem_singleton.mpr rfl)
      obtain ⟨X3, a1, a2, a3, a4⟩ := row k hk 0 (Nat.zero_le _) X2 (hf.tr (f2.mo (by decide))) (fun k' hk' => by
        rw [← hX2]
        show xs X1.1 38 0 0 (nI k) _ 38 0 0 (nI k') = _
        rw [xs_nj _ _ _ _ _ (fun w => by have := nI_inj (by omega) (by omega) w; omega)]
        exact hr k' hk') (fun k' o hk' ho => by
        rw [f2.at 40 (by decide)]
        exact ha k' o hk' ho) (by
        rw [← hX2]
        exact xs_self _ _ _ _ _ _) (fun o ho => absurd ho (by omega))
      obtain ⟨X', b1, b2, b3, b4⟩ := ih X3 a1 a2 a3
      refine ⟨X', b1, b2, b3, fun o Z hn z3 => ?_⟩
      have b4 := b4 o Z hn
      have a4 := a4 o Z (fun z3 => by
        refine ev_seg rfl ?_
        simp only [TE, sxs, sx, ldI, ldA, stI, stA, inc, gtF, ptF, ldX, stX, ldR, ldL, stL, dp1, dp2, Tm, kS0, kS1, kS2, kS3, kS4, kS5, kS6, kS7, kS8, kS9, kS10, kS11, kS12, kS13, kS14, kS15, kS16, kS17, kS18, kS19, kS20, kS21, kS22, kS23, kS24, kS25, kS26, kS27, kS28, kS30, kS31, kS32, kS33, kS34, kS35, kS36, kS37, kS38, kS39, kS40, kS41, kS42, kS43, kS51, kS52, kS53, List.getElem?_cons_zero, List.getElem?_cons_succ, List.set_cons_zero, List.set_cons_succ, List.length_cons, List.length_nil, List.drop_succ_cons, List.drop_zero, List.cons_append, List.nil_append, Option.toList_some, Option.toList_none, cz, ci2, true_and, and_true, and_self, true_or, or_true, nI_1, Nat.reduceAdd, Nat.reduceLT]
        exact b4 _)
      refine ev_seg rfl ?_
      simp only [TE, sxs, sx, ldI, ldA, stI, stA, inc, gtF, ptF, ldX, stX, ldR, ldL, stL, dp1, dp2, Tm, kS0, kS1, kS2, kS3, kS4, kS5, kS6, kS7, kS8, kS9, kS10, kS11, kS12, kS13, kS14, kS15, kS16, kS17, kS18, kS19, kS20, kS21, kS22, kS23, kS24, kS25, kS26, kS27, kS28, kS30, kS31, kS32, kS33, kS34, kS35, kS36, kS37, kS38, kS39, kS40, kS41, kS42, kS43, kS51, kS52, kS53, List.getElem?_cons_zero, List.getElem?_cons_succ, List.set_cons_zero, List.set_cons_succ, List.length_cons, List.length_nil, List.drop_succ_cons, List.drop_zero, List.cons_append, List.nil_append, Option.toList_some, Option.toList_none, cz, ci2, true_and, and_true, and_self, true_or, or_true, nI_1, Nat.reduceAdd, Nat.reduceLT, s1.2.2.1]
      refine ⟨(by first | assumption | (and_intros <;> first | assumption | trivial | decide)), fun w => absurd w (nle hk (by omega)), fun _ => ?_⟩
      refine ev_seg rfl ?_
      simp only [TE, sxs, sx, ldI, ldA, stI, stA, inc, gtF, ptF, ldX, stX, ldR, ldL, stL, dp1, dp2, Tm, kS0, kS1, kS2, kS3, kS4, kS5, kS6, kS7, kS8, kS9, kS10, kS11, kS12, kS13, kS14, kS15, kS16, kS17, kS18, kS19, kS20, kS21, kS22, kS23, kS24, kS25, kS26, kS27, kS28, kS30, kS31, kS32, kS33, kS34, kS35, kS36, kS37, kS38, kS39, kS40, kS41, kS42, kS43, kS51, kS52, kS53, List.getElem?_cons_zero, List.getElem?_cons_succ, List.set_cons_zero, List.set_cons_succ, List.length_cons, List.length_nil, List.drop_succ_cons, List.drop_zero, List.cons_append, List.nil_append, Option.toList_some, Option.toList_none, cz, ci2, true_and, and_true, and_self, true_or, or_true, nI_1, Nat.reduceAdd, Nat.reduceLT]
      rw [hX2]
      exact ⟨(by first | assumption | (and_intros <;> first | assumption | trivial | decide)), a4⟩
  obtain ⟨X', a1, a2, a3, a4⟩ := rows 0 (Nat.zero_le _) X (Fr.rf _ _) (fun k' hk' => absurd hk' (by omega)) (fun k' o hk' => absurd hk' (by omega))
  refine ⟨X', a1, ⟨fun k hk => ?_, fun k o hk ho => ⟨a3 k o hk ho, by show 0 < 100; decide⟩⟩, fun o Z hn => ?_⟩
  · have e : kap (fun z _ => PM X b n z) 1 (fun _ => true) n k = ct (fun o => decide (PM X b n k < PM X b n o)) n := ct_congr fun z _ => by
      rw [Bool.true_and, betB_1]
    rw [e]
    exact ⟨a2 k hk, hct9 _ _ (Nat.le_refl _)⟩
  · rw [en113]
    refine ev_seg rfl ?_
    simp only [TE, sxs, sx, ldI, ldA, stI, stA, inc, gtF, ptF, ldX, stX, ldR, ldL, stL, dp1, dp2, Tm, kS0, kS1, kS2, kS3, kS4, kS5, kS6, kS7, kS8, kS9, kS10, kS11, kS12, kS13, kS14, kS15, kS16, kS17, kS18, kS19, kS20, kS21, kS22, kS23, kS24, kS25, kS26, kS27, kS28, kS30, kS31, kS32, kS33, kS34, kS35, kS36, kS37, kS38, kS39, kS40, kS41, kS42, kS43, kS51, kS52, kS53, List.getElem?_cons_zero, List.getElem?_cons_succ, List.set_cons_zero, List.set_cons_succ, List.length_cons, List.length_nil, List.drop_succ_cons, List.drop_zero, List.cons_append, List.nil_append, Option.toList_some, Option.toList_none, cz, ci2, true_and, and_true, and_self, true_or, or_true, nI_1, Nat.reduceAdd, Nat.reduceLT]
    exact a4 o Z hn _
theorem INV.rlt {S K : Nat → Nat → Int32} {P : Nat → Int32} {rk : Nat → Nat} {ap : Nat → Nat → Nat} (h : INV S K P n rk ap) {k : Nat} (hk : k < n) : rk k < n := by
  rw [h.2.2 k hk]
  have := ct_lt (p := fun z => decide (rk z < rk k)) (q := fun _ => true) (a := k) (n := n) (fun _ _ _ => rfl) hk (by simp) rfl
  have := ct_le (fun _ => true) n
  omega
theorem s_Morders (h : MS X i b n) (hV : MV X b n) :
    ∃ X', Ev sc (d + 5) 113 0 (ent 113 [vR 30 0 0, vI (nI i)]) [] X (.inl none) X' 0 ∧ Fr [38, 39, 40, 41] X X' ∧ (∀ k, k < n → X'.1 38 0 0 (nI k) = nI (PT (scM X b) n (KM X b n) (PM X b n) k)) ∧ (∀ a a', a < n → a' < n → a ≠ a' → X'.1 40 0 0 (nI (5 * a + a')) = nI (RT (scM X b) n (KM X b n) (PM X b n) a a')) ∧ (∀ k, k < n → PT (scM X b) n (KM X b n) (PM X b n) k < n) ∧ ∀ a a', a < n → a' < n → PT (scM X b) n (KM X b n) (PM X b n) a = PT (scM X b) n (KM X b n) (PM X b n) a' → a = a' := by
  have h0 := h
  obtain ⟨⟨h1, h2, h3, h4⟩, h5, h6, h7⟩ := h
  have vi : vp_in (nI i) 6 := vpn (by omega) (by decide)
  have hK := hV.lots ⟨h3, h4⟩
  obtain ⟨X1, a1, a2, a3⟩ := or_init (sc := sc) (d := d + 1) h0 hV.1
  have hI1 : INV (scM X b) (KM X b n) (PM X b n) n (kap (fun z _ => PM X b n z) 1 (fun _ => true) n) (fun _ _ => 0) := INV.init (fun _ _ _ _ => rfl)
  -- one pass
  have pass : ∀ (w0 fr : Nat), fr ≤ n → ∀ (Y : XT) (rk : Nat → Nat) (ap : Nat → Nat → Nat) (mb : Bool), Fr [38, 39, 40, 41] X Y → RK Y n rk ap → INV (scM X b) (KM X b n) (PM X b n) n rk ap → w0 ≤ sumR rk n → (mb = false → ∀ f, f < fr → ¬ 1 < ct (fun k => decide (rk k = f)) n) → (mb = true → w0 < sumR rk n) →
      ∃ (Y' : XT) (rk' : Nat → Nat) (ap' : Nat → Nat → Nat) (mb' : Bool), Fr [38, 39, 40, 41] X Y' ∧ RK Y' n rk' ap' ∧ INV (scM X b) (KM X b n) (PM X b n) n rk' ap' ∧ (mb' = false → ∀ f, f < n → ¬ 1 < ct (fun k => decide (rk' k = f)) n) ∧ (mb' = true → w0 < sumR rk' n) ∧
        ∀ o Z, Ev sc (d + 5) 113 12 [vR 30 0 0, vI (nI i), vI (bI (mb' = true)), vI (nI n)] [] Y' o Z 0 → Ev sc (d + 5) 113 14 [vR 30 0 0, vI (nI i), vI (bI (mb = true)), vI (nI fr)] [] Y o Z 0 := by
    intro w0
    apply loop_up
    · intro Y rk ap mb hf hR hI hw hm0 hm1
      have s1 := h0.fr hf (by decide) (by decide) (by decide)
      refine ⟨Y, rk, ap, mb, hf, hR, hI, hm0, hm1, fun o Z hn => ?_⟩
      refine ev_seg rfl ?_
      simp only [TE, sxs, sx, ldI, ldA, stI, stA, inc, gtF, ptF, ldX, stX, ldR, ldL, stL, dp1, dp2, Tm, kS0, kS1, kS2, kS3, kS4, kS5, kS6, kS7, kS8, kS9, kS10, kS11, kS12, kS13, kS14, kS15, kS16, kS17, kS18, kS19, kS20, kS21, kS22, kS23, kS24, kS25, kS26, kS27, kS28, kS30, kS31, kS32, kS33, kS34, kS35, kS36, kS37, kS38, kS39, kS40, kS41, kS42, kS43, kS51, kS52, kS53, List.getElem?_cons_zero, List.getElem?_cons_succ, List.set_cons_zero, List.set_cons_succ, List.length_cons, List.length_nil, List.drop_succ_cons, List.drop_zero, List.cons_append, List.nil_append, Option.toList_some, Option.toList_none, cz, ci2, true_and, and_true, and_self, true_or, or_true, nI_1, Nat.reduceAdd, Nat.reduceLT, s1.2.2.1]
      refine ⟨(by first | assumption | (and_intros <;> first | assumption | trivial | decide)), fun _ => ?_, fun w => absurd (nleI (Nat.le_refl _) (by omega)) w⟩
      refine ev_seg rfl ?_
      simp only [TE, sxs, sx, ldI, ldA, stI, stA, inc, gtF, ptF, ldX, stX, ldR, ldL, stL, dp1, dp2, Tm, kS0, kS1, kS2, kS3, kS4, kS5, kS6, kS7, kS8, kS9, kS10, kS11, kS12, kS13, kS14, kS15, kS16, kS17, kS18, kS19, kS20, kS21, kS22, kS23, kS24, kS25, kS26, kS27, kS28, kS30, kS31, kS32, kS33, kS34, kS35, kS36, kS37, kS38, kS39, kS40, kS41, kS42, kS43, kS51, kS52, kS53, List.getElem?_cons_zero, List.getElem?_cons_succ, List.set_cons_zero, List.set_cons_succ, List.length_cons, List.length_nil, List.drop_succ_cons, List.drop_zero, List.cons_append, List.nil_append, Option.toList_some, Option.toList_none, cz, ci2, true_and, and_true, and_self, true_or, or_true, nI_1, Nat.reduceAdd, Nat.reduceLT]
      exact hn
    · intro fr hfr ih Y rk ap mb hf hR hI hw hm0 hm1
      have s1 := h0.fr hf (by decide) (by decide) (by decide)
      have V1 := hV.fr hf (by decide) (by decide) (by decide) (by decide)
      obtain ⟨Y2, b1, b2, b3⟩ := s_Msplits (sc := sc) (d := d) s1 V1 hR (fun k hk => by have := hI.rlt hk; omega) (fr := fr) (by omega)
      rw [scM_fr hf (by decide), KM_fr hf (by decide) (by decide) (by decide)] at b3
      have hI2 := hI.split (fr := fr) h3 hK rfl
      have hle : sumR rk n ≤ sumR (rkN (scM X b) (KM X b n) n (fun k => decide (rk k = fr)) rk) n := sumR_le (fun k _ => rkN_le k)
      by_cases hmany : 1 < ct (fun k => decide (rk k = fr)) n
      · have hmore := rkN_more (S := scM X b) hK (rk := rk) hmany
        obtain ⟨Y', rk', ap', mb', c1, c2, c3, c4, c5, c6⟩ := ih Y2 _ _ true (hf.tr b2) b3 hI2 (by omega) (fun w => by cases w) (fun _ => by omega)
        refine ⟨Y', rk', ap', mb', c1, c2, c3, c4, c5, fun o Z hn => ?_⟩
        have c6 := c6 o Z hn
        rw [bI_t (p := true = true) rfl] at c6
        rw [bI_t hmany] at b1
        refine ev_seg rfl ?_
        simp only [TE, sxs, sx, ldI, ldA, stI, stA, inc, gtF, ptF, ldX, stX, ldR, ldL, stL, dp1, dp2, Tm, kS0, kS1, kS2, kS3, kS4, kS5, kS6, kS7, kS8, kS9, kS10, kS11, kS12, kS13, kS14, kS15, kS16, kS17, kS18, kS19, kS20, kS21, kS22, kS23, kS24, kS25, kS26, kS27, kS28, kS30, kS31, kS32, kS33, kS34, kS35, kS36, kS37, kS38, kS39, kS40, kS41, kS42, kS43, kS51, kS52, kS53, List.getElem?_cons_zero, List.getElem?_cons_succ, List.set_cons_zero, List.set_cons_succ, List.length_cons, List.length_nil, List.drop_succ_cons, List.drop_zero, List.cons_append, List.nil_append, Option.toList_some, Option.toList_none, cz, ci2, true_and, and_true, and_self, true_or, or_true, nI_1, Nat.reduceAdd, Nat.reduceLT, s1.2.2.1]
        refine ⟨(by first | assumption | (and_intros <;> first | assumption | trivial | decide)), fun w => absurd w (nle hfr (by omega)), fun _ => ?_⟩
        refine ev_seg rfl ?_
        simp only [TE, sxs, sx, ldI, ldA, stI, stA, inc, gtF, ptF, ldX, stX, ldR, ldL, stL, dp1, dp2, Tm, kS0, kS1, kS2, kS3, kS4, kS5, kS6, kS7, kS8, kS9, kS10, kS11, kS12, kS13, kS14, kS15, kS16, kS17, kS18, kS19, kS20, kS21, kS22, kS23, kS24, kS25, kS26, kS27, kS28, kS30, kS31, kS32, kS33, kS34, kS35, kS36, kS37, kS38, kS39, kS40, kS41, kS42, kS43, kS51, kS52, kS53, List.getElem?_cons_zero, List.getElem?_cons_succ, List.set_cons_zero, List.set_cons_succ, List.length_cons, List.length_nil, List.drop_succ_cons, List.drop_zero, List.cons_append, List.nil_append, Option.toList_some, Option.toList_none, cz, ci2, true_and, and_true, and_self, true_or, or_true, nI_1, Nat.reduceAdd, Nat.reduceLT]
        refine cv3 rfl rfl (by first | exact rfl | exact trivial) (b1) ?_
        refine ev_seg rfl ?_
        simp only [TE, sxs, sx, ldI, ldA, stI, stA, inc, gtF, ptF, ldX, stX, ldR, ldL, stL, dp1, dp2, Tm, kS0, kS1, kS2, kS3, kS4, kS5, kS6, kS7, kS8, kS9, kS10, kS11, kS12, kS13, kS14, kS15, kS16, kS17, kS18, kS19, kS20, kS21, kS22, kS23, kS24, kS25, kS26, kS27, kS28, kS30, kS31, kS32, kS33, kS34, kS35, kS36, kS37, kS38, kS39, kS40, kS41, kS42, kS43, kS51, kS52, kS53, List.getElem?_cons_zero, List.getElem?_cons_succ, List.set_cons_zero, List.set_cons_succ, List.length_cons, List.length_nil, List.drop_succ_cons, List.drop_zero, List.cons_append, List.nil_append, Option.toList_some, Option.toList_none, cz, ci2, true_and, and_true, and_self, true_or, or_true, nI_1, Nat.reduceAdd, Nat.reduceLT]
        refine ⟨fun _ => ?_, fun w => absurd (by decide) w⟩
        refine ev_seg rfl ?_
        simp only [TE, sxs, sx, ldI, ldA, stI, stA, inc, gtF, ptF, ldX, stX, ldR, ldL, stL, dp1, dp2, Tm, kS0, kS1, kS2, kS3, kS4, kS5, kS6, kS7, kS8, kS9, kS10, kS11, kS12, kS13, kS14, kS15, kS16, kS17, kS18, kS19, kS20, kS21, kS22, kS23, kS24, kS25, kS26, kS27, kS28, kS30, kS31, kS32, kS33, kS34, kS35, kS36, kS37, kS38, kS39, kS40, kS41, kS42, kS43, kS51, kS52, kS53, List.getElem?_cons_zero, List.getElem?_cons_succ, List.set_cons_zero, List.set_cons_succ, List.length_cons, List.length_nil, List.drop_succ_cons, List.drop_zero, List.cons_append, List.nil_append, Option.toList_some, Option.toList_none, cz, ci2, true_and, and_true, and_self, true_or, or_true, nI_1, Nat.reduceAdd, Nat.reduceLT]
        refine ev_seg rfl ?_
        simp only [TE, sxs, sx, ldI, ldA, stI, stA, inc, gtF, ptF, ldX, stX, ldR, ldL, stL, dp1, dp2, Tm, kS0, kS1, kS2, kS3, kS4, kS5, kS6, kS7, kS8, kS9, kS10, kS11, kS12, kS13, kS14, kS15, kS16, kS17, kS18, kS19, kS20, kS21, kS22, kS23, kS24, kS25, kS26, kS27, kS28, kS30, kS31, kS32, kS33, kS34, kS35, kS36, kS37, kS38, kS39, kS40, kS41, kS42, kS43, kS51, kS52, kS53, List.getElem?_cons_zero, List.getElem?_cons_succ, List.set_cons_zero, List.set_cons_succ, List.length_cons, List.length_nil, List.drop_succ_cons, List.drop_zero, List.cons_append, List.nil_append, Option.toList_some, Option.toList_none, cz, ci2, true_and, and_true, and_self, true_or, or_true, nI_1, Nat.reduceAdd, Nat.reduceLT]
        exact c6
      · have hsame : ∀ k, k < n → rkN (scM X b) (KM X b n) n (fun k => decide (rk k = fr)) rk k = rk k := fun k hk => rkN_same hK hmany hk
        obtain ⟨Y', rk', ap', mb', c1, c2, c3, c4, c5, c6⟩ := ih Y2 _ _ mb (hf.tr b2) b3 hI2 (by omega) (fun w f hf2 => by
          rw [ct_congr (fun k hk => by rw [hsame k hk])]
          by_cases hff : f = fr
          · rw [hff]; exact hmany
          · exact hm0 w f (by omega)) (fun w => by have := hm1 w; omega)
        refine ⟨Y', rk', ap', mb', c1, c2, c3, c4, c5, fun o Z hn => ?_⟩
        have c6 := c6 o Z hn
        rw [bI_f hmany] at b1
        refine ev_seg rfl ?_
        simp only [TE, sxs, sx, ldI, ldA, stI, stA, inc, gtF, ptF, ldX, stX, ldR, ldL, stL, dp1, dp2, Tm, kS0, kS1, kS2, kS3, kS4, kS5, kS6, kS7, kS8, kS9, kS10, kS11, kS12, kS13, kS14, kS15, kS16, kS17, kS18, kS19, kS20, kS21, kS22, kS23, kS24, kS25, kS26, kS27, kS28, kS30, kS31, kS32, kS33, kS34, kS35, kS36, kS37, kS38, kS39, kS40, kS41, kS42, kS43, kS51, kS52, kS53, List.getElem?_cons_zero, List.getElem?_cons_succ, List.set_cons_zero, List.set_cons_succ, List.length_cons, List.length_nil, List.drop_succ_cons, List.drop_zero, List.cons_append, List.nil_append, Option.toList_some, Option.toList_none, cz, ci2, true_and, and_true, and_self, true_or, or_true, nI_1, Nat.reduceAdd, Nat.reduceLT, s1.2.2.1]
        refine ⟨(by first | assumption | (and_intros <;> first | assumption | trivial | decide)), fun w => absurd w (nle hfr (by omega)), fun _ => ?_⟩
        refine ev_seg rfl ?_
        simp only [TE, sxs, sx, ldI, ldA, stI, stA, inc, gtF, ptF, ldX, stX, ldR, ldL, stL, dp1, dp2, Tm, kS0, kS1, kS2, kS3, kS4, kS5, kS6, kS7, kS8, kS9, kS10, kS11, kS12, kS13, kS14, kS15, kS16, kS17, kS18, kS19, kS20, kS21, kS22, kS23, kS24, kS25, kS26, kS27, kS28, kS30, kS31, kS32, kS33, kS34, kS35, kS36, kS37, kS38, kS39, kS40, kS41, kS42, kS43, kS51, kS52, kS53, List.getElem?_cons_zero, List.getElem?_cons_succ, List.set_cons_zero, List.set_cons_succ, List.length_cons, List.length_nil, List.drop_succ_cons, List.drop_zero, List.cons_append, List.nil_append, Option.toList_some, Option.toList_none, cz, ci2, true_and, and_true, and_self, true_or, or_true, nI_1, Nat.reduceAdd, Nat.reduceLT]
        refine cv3 rfl rfl (by first | exact rfl | exact trivial) (b1) ?_
        refine ev_seg rfl ?_
        simp only [TE, sxs, sx, ldI, ldA, stI, stA, inc, gtF, ptF, ldX, stX, ldR, ldL, stL, dp1, dp2, Tm, kS0, kS1, kS2, kS3, kS4, kS5, kS6, kS7, kS8, kS9, kS10, kS11, kS12, kS13, kS14, kS15, kS16, kS17, kS18, kS19, kS20, kS21, kS22, kS23, kS24, kS25, kS26, kS27, kS28, kS30, kS31, kS32, kS33, kS34, kS35, kS36, kS37, kS38, kS39, kS40, kS41, kS42, kS43, kS51, kS52, kS53, List.getElem?_cons_zero, List.getElem?_cons_succ, List.set_cons_zero, List.set_cons_succ, List.length_cons, List.length_nil, List.drop_succ_cons, List.drop_zero, List.cons_append, List.nil_append, Option.toList_some, Option.toList_none, cz, ci2, true_and, and_true, and_self, true_or, or_true, nI_1, Nat.reduceAdd, Nat.reduceLT]
        refine ⟨fun w => absurd trivial w, fun _ => ?_⟩
        cases mb with
        | true =>
          rw [bI_t (p := true = true) rfl] at c6 ⊢
          refine ev_seg rfl ?_
          simp only [TE, sxs, sx, ldI, ldA, stI, stA, inc, gtF, ptF, ldX, stX, ldR, ldL, stL, dp1, dp2, Tm, kS0, kS1, kS2, kS3, kS4, kS5, kS6, kS7, kS8, kS9, kS10, kS11, kS12, kS13, kS14, kS15, kS16, kS17, kS18, kS19, kS20, kS21, kS22, kS23, kS24, kS25, kS26, kS27, kS28, kS30, kS31, kS32, kS33, kS34, kS35, kS36, kS37, kS38, kS39, kS40, kS41, kS42, kS43, kS51, kS52, kS53, List.getElem?_cons_zero, List.getElem?_cons_succ, List.set_cons_zero, List.set_cons_succ, List.length_cons, List.length_nil, List.drop_succ_cons, List.drop_zero, List.cons_append, List.nil_append, Option.toList_some, Option.toList_none, cz, ci2, true_and, and_true, and_self, true_or, or_true, nI_1, Nat.reduceAdd, Nat.reduceLT]
          refine ⟨fun w => absurd w (by decide), fun _ => ?_⟩
          refine ev_seg rfl ?_
          simp only [TE, sxs, sx, ldI, ldA, stI, stA, inc, gtF, ptF, ldX, stX, ldR, ldL, stL, dp1, dp2, Tm, kS0, kS1, kS2, kS3, kS4, kS5, kS6, kS7, kS8, kS9, kS10, kS11, kS12, kS13, kS14, kS15, kS16, kS17, kS18, kS19, kS20, kS21, kS22, kS23, kS24, kS25, kS26, kS27, kS28, kS30, kS31, kS32, kS33, kS34, kS35, kS36, kS37, kS38, kS39, kS40, kS41, kS42, kS43, kS51, kS52, kS53, List.getElem?_cons_zero, List.getElem?_cons_succ, List.set_cons_zero, List.set_cons_succ, List.length_cons, List.length_nil, List.drop_succ_cons, List.drop_zero, List.cons_append, List.nil_append, Option.toList_some, Option.toList_none, cz, ci2, true_and, and_true, and_self, true_or, or_true, nI_1, Nat.reduceAdd, Nat.reduceLT]
          refine ev_seg rfl ?_
          simp only [TE, sxs, sx, ldI, ldA, stI, stA, inc, gtF, ptF, ldX, stX, ldR, ldL, stL, dp1, dp2, Tm, kS0, kS1, kS2, kS3, kS4, kS5, kS6, kS7, kS8, kS9, kS10, kS11, kS12, kS13, kS14, kS15, kS16, kS17, kS18, kS19, kS20, kS21, kS22, kS23, kS24, kS25, kS26, kS27, kS28, kS30, kS31, kS32, kS33, kS34, kS35, kS36, kS37, kS38, kS39, kS40, kS41, kS42, kS43, kS51, kS52, kS53, List.getElem?_cons_zero, List.getElem?_cons_succ, List.set_cons_zero, List.set_cons_succ, List.length_cons, List.length_nil, List.drop_succ_cons, List.drop_zero, List.cons_append, List.nil_append, Option.toList_some, Option.toList_none, cz, ci2, true_and, and_true, and_self, true_or, or_true, nI_1, Nat.reduceAdd, Nat.reduceLT]
          exact c6
        | false =>
          rw [bI_f (p := false = true) (by decide)] at c6 ⊢
          refine ev_seg rfl ?_
          simp only [TE, sxs, sx, ldI, ldA, stI, stA, inc, gtF, ptF, ldX, stX, ldR, ldL, stL, dp1, dp2, Tm, kS0, kS1, kS2, kS3, kS4, kS5, kS6, kS7, kS8, kS9, kS10, kS11, kS12, kS13, kS14, kS15, kS16, kS17, kS18, kS19, kS20, kS21, kS22, kS23, kS24, kS25, kS26, kS27, kS28, kS30, kS31, kS32, kS33, kS34, kS35, kS36, kS37, kS38, kS39, kS40, kS41, kS42, kS43, kS51, kS52, kS53, List.getElem?_cons_zero, List.getElem?_cons_succ, List.set_cons_zero, List.set_cons_succ, List.length_cons, List.length_nil, List.drop_succ_cons, List.drop_zero, List.cons_append, List.nil_append, Option.toList_some, Option.toList_none, cz, ci2, true_and, and_true, and_self, true_or, or_true, nI_1, Nat.reduceAdd, Nat.reduceLT]
          refine ⟨fun _ => ?_, fun w => absurd trivial w⟩
          refine ev_seg rfl ?_
          simp only [TE, sxs, sx, ldI, ldA, stI, stA, inc, gtF, ptF, ldX, stX, ldR, ldL, stL, dp1, dp2, Tm, kS0, kS1, kS2, kS3, kS4, kS5, kS6, kS7, kS8, kS9, kS10, kS11, kS12, kS13, kS14, kS15, kS16, kS17, kS18, kS19, kS20, kS21, kS22, kS23, kS24, kS25, kS26, kS27, kS28, kS30, kS31, kS32, kS33, kS34, kS35, kS36, kS37, kS38, kS39, kS40, kS41, kS42, kS43, kS51, kS52, kS53, List.getElem?_cons_zero, List.getElem?_cons_succ, List.set_cons_zero, List.set_cons_succ, List.length_cons, List.length_nil, List.drop_succ_cons, List.drop_zero, List.cons_append, List.nil_append, Option.toList_some, Option.toList_none, cz, ci2, true_and, and_true, and_self, true_or, or_true, nI_1, Nat.reduceAdd, Nat.reduceLT]
          refine ev_seg rfl ?_
          simp only [TE, sxs, sx, ldI, ldA, stI, stA, inc, gtF, ptF, ldX, stX, ldR, ldL, stL, dp1, dp2, Tm, kS0, kS1, kS2, kS3, kS4, kS5, kS6, kS7, kS8, kS9, kS10, kS11, kS12, kS13, kS14, kS15, kS16, kS17, kS18, kS19, kS20, kS21, kS22, kS23, kS24, kS25, kS26, kS27, kS28, kS30, kS31, kS32, kS33, kS34, kS35, kS36, kS37, kS38, kS39, kS40, kS41, kS42, kS43, kS51, kS52, kS53, List.getElem?_cons_zero, List.getElem?_cons_succ, List.set_cons_zero, List.set_cons_succ, List.length_cons, List.length_nil, List.drop_succ_cons, List.drop_zero, List.cons_append, List.nil_append, Option.toList_some, Option.toList_none, cz, ci2, true_and, and_true, and_self, true_or, or_true, nI_1, Nat.reduceAdd, Nat.reduceLT]
          exact c6
  have whl : ∀ (q : Nat) (Y : XT) (rk : Nat → Nat) (ap : Nat → Nat → Nat), 26 ≤ sumR rk n + q → Fr [38, 39, 40, 41] X Y → RK Y n rk ap → INV (scM X b) (KM X b n) (PM X b n) n rk ap →
      ∃ X', (∀ z3, Ev sc (d + 5) 113 12 [vR 30 0 0, vI (nI i), vI 1, z3] [] Y (.inl none) X' 0) ∧ Fr [38, 39, 40, 41] X X' ∧ (∀ k, k < n → X'.1 38 0 0 (nI k) = nI (PT (scM X b) n (KM X b n) (PM X b n) k)) ∧ (∀ a a', a < n → a' < n → a ≠ a' → X'.1 40 0 0 (nI (5 * a + a')) = nI (RT (scM X b) n (KM X b n) (PM X b n) a a')) ∧ (∀ k, k < n → PT (scM X b) n (KM X b n) (PM X b n) k < n) ∧ ∀ a a', a < n → a' < n → PT (scM X b) n (KM X b n) (PM X b n) a = PT (scM X b) n (KM X b n) (PM X b n) a' → a = a' := by
    intro q
    induction q with
    | zero =>
      intro Y rk ap hq hf hR hI
      have := sumR_bd (r := rk) (B := n - 1) (m := n) (fun k hk => by have := hI.rlt hk; omega)
      have h9 : n * (n - 1) ≤ 5 * 4 := Nat.mul_le_mul h3 (by omega)
      omega
    | succ q ihq =>
      intro Y rk ap hq hf hR hI
      obtain ⟨Y', rk', ap', mb', c1, c2, c3, c4, c5, c6⟩ := pass (sumR rk n) 0 (Nat.zero_le _) Y rk ap false hf hR hI (Nat.le_refl _) (fun _ f hf2 => absurd hf2 (by omega)) (fun w => by cases w)
      have pre : ∀ z3 Z, Ev sc (d + 5) 113 12 [vR 30 0 0, vI (nI i), vI (bI (mb' = true)), vI (nI n)] [] Y' (.inl none) Z 0 → Ev sc (d + 5) 113 12 [vR 30 0 0, vI (nI i), vI 1, z3] [] Y (.inl none) Z 0 := by
        intro z3 Z hn
        have c6 := c6 _ Z hn
        rw [bI_f (p := false = true) (by decide)] at c6
        refine ev_seg rfl ?_
        simp only [TE, sxs, sx, ldI, ldA, stI, stA, inc, gtF, ptF, ldX, stX, ldR, ldL, stL, dp1, dp2, Tm, kS0, kS1, kS2, kS3, kS4, kS5, kS6, kS7, kS8, kS9, kS10, kS11, kS12, kS13, kS14, kS15, kS16, kS17, kS18, kS19, kS20, kS21, kS22, kS23, kS24, kS25, kS26, kS27, kS28, kS30, kS31, kS32, kS33, kS34, kS35, kS36, kS37, kS38, kS39, kS40, kS41, kS42, kS43, kS51, kS52, kS53, List.getElem?_cons_zero, List.getElem?_cons_succ, List.set_cons_zero, List.set_cons_succ, List.length_cons, List.length_nil, List.drop_succ_cons, List.drop_zero, List.cons_append, List.nil_append, Option.toList_some, Option.toList_none, cz, ci2, true_and, and_true, and_self, true_or, or_true, nI_1, Nat.reduceAdd, Nat.reduceLT]
        refine ⟨fun w => absurd w (by decide), fun _ => ?_⟩
        refine ev_seg rfl ?_
        simp only [TE, sxs, sx, ldI, ldA, stI, stA, inc, gtF, ptF, ldX, stX, ldR, ldL, stL, dp1, dp2, Tm, kS0, kS1, kS2, kS3, kS4, kS5, kS6, kS7, kS8, kS9, kS10, kS11, kS12, kS13, kS14, kS15, kS16, kS17, kS18, kS19, kS20, kS21, kS22, kS23, kS24, kS25, kS26, kS27, kS28, kS30, kS31, kS32, kS33, kS34, kS35, kS36, kS37, kS38, kS39, kS40, kS41, kS42, kS43, kS51, kS52, kS53, List.getElem?_cons_zero, List.getElem?_cons_succ, List.set_cons_zero, List.set_cons_succ, List.length_cons, List.length_nil, List.drop_succ_cons, List.drop_zero, List.cons_append, List.nil_append, Option.toList_some, Option.toList_none, cz, ci2, true_and, and_true, and_self, true_or, or_true, nI_1, Nat.reduceAdd, Nat.reduceLT]
        exact c6
      cases hmb : mb' with
      | true =>
        rw [hmb] at pre c5
        obtain ⟨X', d1, d2, d3, d4⟩ := ihq Y' rk' ap' (by have := c5 rfl; omega) c1 c2 c3
        refine ⟨X', fun z3 => pre z3 X' ?_, d2, d3, d4⟩
        rw [bI_t (p := true = true) rfl]
        exact d1 _
      | false =>
        rw [hmb] at pre c4
        obtain ⟨⟨e3, e4⟩, e1, e2⟩ := c3.fin (c4 rfl)
        refine ⟨Y', fun z3 => pre z3 Y' ?_, c1, fun k hk => ?_, fun a a' ha ha' hne => ?_, fun k hk => by rw [← e1 k hk]; exact e3 k hk, fun a a' ha ha' he => by rw [← e1 a ha, ← e1 a' ha'] at he; exact e4 a a' ha ha' he⟩
        · rw [bI_f (p := false = true) (by decide)]
          refine ev_seg rfl ?_
          simp only [TE, sxs, sx, ldI, ldA, stI, stA, inc, gtF, ptF, ldX, stX, ldR, ldL, stL, dp1, dp2, Tm, kS0, kS1, kS2, kS3, kS4, kS5, kS6, kS7, kS8, kS9, kS10, kS11, kS12, kS13, kS14, kS15, kS16, kS17, kS18, kS19, kS20, kS21, kS22, kS23, kS24, kS25, kS26, kS27, kS28, kS30, kS31, kS32, kS33, kS34, kS35, kS36, kS37, kS38, kS39, kS40, kS41, kS42, kS43, kS51, kS52, kS53, List.getElem?_cons_zero, List.getElem?_cons_succ, List.set_cons_zero, List.set_cons_succ, List.length_cons, List.length_nil, List.drop_succ_cons, List.drop_zero, List.cons_append, List.nil_append, Option.toList_some, Option.toList_none, cz, ci2, true_and, and_true, and_self, true_or, or_true, nI_1, Nat.reduceAdd, Nat.reduceLT]
          refine ⟨fun _ => ?_, fun w => absurd trivial w⟩
          refine ev_seg rfl ?_
          simp only [TE, sxs, sx, ldI, ldA, stI, stA, inc, gtF, ptF, ldX, stX, ldR, ldL, stL, dp1, dp2, Tm, kS0, kS1, kS2, kS3, kS4, kS5, kS6, kS7, kS8, kS9, kS10, kS11, kS12, kS13, kS14, kS15, kS16, kS17, kS18, kS19, kS20, kS21, kS22, kS23, kS24, kS25, kS26, kS27, kS28, kS30, kS31, kS32, kS33, kS34, kS35, kS36, kS37, kS38, kS39, kS40, kS41, kS42, kS43, kS51, kS52, kS53, List.getElem?_cons_zero, List.getElem?_cons_succ, List.set_cons_zero, List.set_cons_succ, List.length_cons, List.length_nil, List.drop_succ_cons, List.drop_zero, List.cons_append, List.nil_append, Option.toList_some, Option.toList_none, cz, ci2, true_and, and_true, and_self, true_or, or_true, nI_1, Nat.reduceAdd, Nat.reduceLT]
        · rw [(c2.1 k hk).1, e1 k hk]
        · rw [(c2.2 a a' ha ha').1, e2 a a' ha ha' hne]
  obtain ⟨X', b1, b2, b3, b4⟩ := whl 26 X1 _ _ (by omega) (a1.mo (by decide)) a2 hI1
  refine ⟨X', a3 _ _ (fun z3 => ?_), b2, b3, b4⟩
  refine ev_seg rfl ?_
  simp only [TE, sxs, sx, ldI, ldA, stI, stA, inc, gtF, ptF, ldX, stX, ldR, ldL, stL, dp1, dp2, Tm, kS0, kS1, kS2, kS3, kS4, kS5, kS6, kS7, kS8, kS9, kS10, kS11, kS12, kS13, kS14, kS15, kS16, kS17, kS18, kS19, kS20, kS21, kS22, kS23, kS24, kS25, kS26, kS27, kS28, kS30, kS31, kS32, kS33, kS34, kS35, kS36, kS37, kS38, kS39, kS40, kS41, kS42, kS43, kS51, kS52, kS53, List.getElem?_cons_zero, List.getElem?_cons_succ, List.set_cons_zero, List.set_cons_succ, List.length_cons, List.length_nil, List.drop_succ_cons, List.drop_zero, List.cons_append, List.nil_append, Option.toList_some, Option.toList_none, cz, ci2, true_and, and_true, and_self, true_or, or_true, nI_1, Nat.reduceAdd, Nat.reduceLT]
  exact b1 _
end Mor
