/-! the reference: laying a way -/
section Mpl
variable {sc : SC} {d : Nat} {X : XT} {i b n : Nat}
def WP (X : XT) (n : Nat) (γ : Nat → Int) : Prop := ∀ k, k < n → X.1 42 0 0 (nI k) = zI (γ k)
def PZM (X : XT) (b n : Nat) : Nat → Int := fun k => (PM X b n k).toInt
theorem wp_set {γ : Nat → Int} (hW : WP X n γ) (hn : n ≤ 5) {k : Nat} (hk : k < n) (a : Int) {v : Int32} (hv : v = zI (γ k + a)) : WP (xs X.1 42 0 0 (nI k) v, X.2) n (ad1 γ k a) := by
  intro j hj
  show xs X.1 42 0 0 (nI k) v 42 0 0 (nI j) = zI (γ j + if j = k then a else 0)
  by_cases h : j = k
  · rw [h, xs_self, if_pos rfl, hv]
  · rw [xs_nj _ _ _ _ _ (fun q => h (nI_inj (by omega) (by omega) q)), if_neg h, Int.add_zero]
    exact hW j hj
theorem pl_row (h : MS X i b n) {l : Nat} (hl : l < n) : ∀ (q u : Nat) (X1 : XT) (γ : Nat → Int) (w : Nat), u + q = n → l < u → w < 2 ^ 31 → Fr [42] X X1 → WP X1 n γ →
    ∃ X', Fr [42] X X' ∧ WP X' n (fp γ ((rowQ l u q).filter (fun p => decide (scM X b p.1 p.2 = -1))) w) ∧ ∀ (way : AV) o Z, (∀ z5, Ev sc (d + 4) 135 22 [vR 30 0 0, vI (nI i), way, vI (nI (w / 3 ^ ((rowQ l u q).filter (fun p => decide (scM X b p.1 p.2 = -1))).length)), vI (nI l), z5] [] X' o Z 0) → Ev sc (d + 4) 135 7 [vR 30 0 0, vI (nI i), way, vI (nI w), vI (nI l), vI (nI u)] [] X1 o Z 0 := by
  have h0 := h
  obtain ⟨⟨h1, h2, h3, h4⟩, h5, h6, h7⟩ := h
  have vi : vp_in (nI i) 6 := vpn (by omega) (by decide)
  intro q
  induction q with
  | zero =>
    intro u X1 γ w hq hlu hw hf hW
    have s1 := h0.fr hf (by decide) (by decide) (by decide)
    refine ⟨X1, hf, hW, fun way o Z hn => ?_⟩
    have hn := hn (vI (nI u))
    rw [show w / 3 ^ ((rowQ l u 0).filter (fun p => decide (scM X b p.1 p.2 = -1))).length = w from Nat.div_one w] at hn
    refine ev_seg rfl ?_
    simp only [TE, sxs, sx, ldI, ldA, stI, stA, inc, gtF, ptF, ldX, stX, ldR, ldL, stL, dp1, dp2, Tm, kS0, kS1, kS2, kS3, kS4, kS5, kS6, kS7, kS8, kS9, kS10, kS11, kS12, kS13, kS14, kS15, kS16, kS17, kS18, kS19, kS20, kS21, kS22, kS23, kS24, kS25, kS26, kS27, kS28, kS30, kS31, kS32, kS33, kS34, kS35, kS36, kS37, kS38, kS39, kS40, kS41, kS42, kS43, kS51, kS52, kS53, List.getElem?_cons_zero, List.getElem?_cons_succ, List.set_cons_zero, List.set_cons_succ, List.length_cons, List.length_nil, List.drop_succ_cons, List.drop_zero, List.cons_append, List.nil_append, Option.toList_some, Option.toList_none, cz, ci2, true_and, and_true, and_self, true_or, or_true, nI_1, Nat.reduceAdd, Nat.reduceLT, s1.2.2.1]
    exact ⟨(by first | assumption | (and_intros <;> first | assumption | trivial | decide)), fun _ => hn, fun w => absurd (nleI (by omega) (by omega)) w⟩
  | succ q ih =>
    intro u X1 γ w hq hlu hw hf hW
    have s1 := h0.fr hf (by decide) (by decide) (by decide)
    have hu : u < n := by omega
    have vl : vp_in (nI l) 5 := vpn (by omega) (by decide)
    have n3 : ¬ (3 : Int32) = 0 := by decide
    have vu : vp_in (nI u) 5 := vpn (by omega) (by decide)
    have hip := s_MisPlayed (sc := sc) (d := d + 2) s1 hl hu
    rw [scM_fr hf (by decide)] at hip
    by_cases hr : scM X b l u = -1
    · have eL : (rowQ l u (q + 1)).filter (fun p => decide (scM X b p.1 p.2 = -1)) = (l, u) :: (rowQ l (u + 1) q).filter (fun p => decide (scM X b p.1 p.2 = -1)) := by
        rw [rowQ, List.filter_cons, if_pos (by rw [decide_eq_true_eq]; exact hr)]
      obtain ⟨g1, g2⟩ := dv3g hw
      generalize hX2 : ((xs X1.1 42 0 0 (nI l) (zI (γ l + lowG (w % 3))), X1.2) : XT) = X2
      have f2 : Fr [42] X X2 := by rw [← hX2]; exact hf.tr (Fr.xs _ _ _ _ _ (List.mem_singleton.mpr rfl))
      have W2 : WP X2 n (ad1 γ l (lowG (w % 3))) := by rw [← hX2]; exact wp_set hW h3 hl _ rfl
      have r2 : X2.1 42 0 0 (nI u) = zI (γ u) := by
        rw [W2 u hu]
        unfold ad1
        rw [if_neg (by omega), Int.add_zero]
      generalize hX3 : ((xs X2.1 42 0 0 (nI u) (zI (γ u + upG (w % 3))), X2.2) : XT) = X3
      have f3 : Fr [42] X X3 := by rw [← hX3]; exact f2.tr (Fr.xs _ _ _ _ _ (List.mem_singleton.mpr rfl))
      have W3 : WP X3 n (gpl γ (l, u) (w % 3)) := by
        rw [← hX3]
        exact wp_set W2 h3 hu _ (by unfold ad1; rw [if_neg (by omega), Int.add_zero])
      obtain ⟨X', a1, a2, a3⟩ := ih (u + 1) X3 _ (w / 3) (by omega) (by omega) (by omega) f3 W3
      refine ⟨X', a1, by rw [eL, fp]; exact a2, fun way o Z hn => ?_⟩
      rw [eL] at hn
      have a3 := a3 way o Z (fun z5 => by
        have := hn z5
        rw [List.length_cons, Nat.pow_succ, Nat.mul_comm, ← Nat.div_div_eq_div_mul] at this
        exact this)
      have s2 := h0.fr f2 (by decide) (by decide) (by decide)
      have t20 : Ev sc (d + 4) 135 20 [vR 30 0 0, vI (nI i), way, vI (nI w), vI (nI l), vI (nI u)] [vI (zI (upG (w % 3))), vI (zI (γ u)), vI (nI u), vR 42 0 0] X2 o Z 0 := by
        have ev : zI (γ u) + zI (upG (w % 3)) = zI (γ u + upG (w % 3)) := (Int32.ofInt_add _ _).symm
        refine ev_seg rfl ?_
        simp only [TE, sxs, sx, ldI, ldA, stI, stA, inc, gtF, ptF, ldX, stX, ldR, ldL, stL, dp1, dp2, Tm, kS0, kS1, kS2, kS3, kS4, kS5, kS6, kS7, kS8, kS9, kS10, kS11, kS12, kS13, kS14, kS15, kS16, kS17, kS18, kS19, kS20, kS21, kS22, kS23, kS24, kS25, kS26, kS27, kS28, kS30, kS31, kS32, kS33, kS34, kS35, kS36, kS37, kS38, kS39, kS40, kS41, kS42, kS43, kS51, kS52, kS53, List.getElem?_cons_zero, List.getElem?_cons_succ, List.set_cons_zero, List.set_cons_succ, List.length_cons, List.length_nil, List.drop_succ_cons, List.drop_zero, List.cons_append, List.nil_append, Option.toList_some, Option.toList_none, cz, ci2, true_and, and_true, and_self, true_or, or_true, nI_1, Nat.reduceAdd, Nat.reduceLT, ev, g1]
        rw [hX3]
        refine ⟨(by first | assumption | (and_intros <;> first | assumption | trivial | decide)), ?_⟩
        refine ev_seg rfl ?_
        simp only [TE, sxs, sx, ldI, ldA, stI, stA, inc, gtF, ptF, ldX, stX, ldR, ldL, stL, dp1, dp2, Tm, kS0, kS1, kS2, kS3, kS4, kS5, kS6, kS7, kS8, kS9, kS10, kS11, kS12, kS13, kS14, kS15, kS16, kS17, kS18, kS19, kS20, kS21, kS22, kS23, kS24, kS25, kS26, kS27, kS28, kS30, kS31, kS32, kS33, kS34, kS35, kS36, kS37, kS38, kS39, kS40, kS41, kS42, kS43, kS51, kS52, kS53, List.getElem?_cons_zero, List.getElem?_cons_succ, List.set_cons_zero, List.set_cons_succ, List.length_cons, List.length_nil, List.drop_succ_cons, List.drop_zero, List.cons_append, List.nil_append, Option.toList_some, Option.toList_none, cz, ci2, true_and, and_true, and_self, true_or, or_true, nI_1, Nat.reduceAdd, Nat.reduceLT]
        exact a3
      have hm : ∀ k, k < 3 → (nI (w % 3) = nI k ↔ w % 3 = k) := fun k hk => ⟨fun q => nI_inj (by omega) (by omega) q, fun q => by rw [q]⟩
      have t15 : Ev sc (d + 4) 135 15 [vR 30 0 0, vI (nI i), way, vI (nI w), vI (nI l), vI (nI u)] [vI (zI (lowG (w % 3))), vI (zI (γ l)), vI (nI l), vR 42 0 0] X1 o Z 0 := by
        have ev : zI (γ l) + zI (lowG (w % 3)) = zI (γ l + lowG (w % 3)) := (Int32.ofInt_add _ _).symm
        have r2' : xs X1.1 42 0 0 (nI l) (zI (γ l + lowG (w % 3))) 42 0 0 (nI u) = zI (γ u) := by rw [← r2, ← hX2]
        refine ev_seg rfl ?_
        simp only [TE, sxs, sx, ldI, ldA, stI, stA, inc, gtF, ptF, ldX, stX, ldR, ldL, stL, dp1, dp2, Tm, kS0, kS1, kS2, kS3, kS4, kS5, kS6, kS7, kS8, kS9, kS10, kS11, kS12, kS13, kS14, kS15, kS16, kS17, kS18, kS19, kS20, kS21, kS22, kS23, kS24, kS25, kS26, kS27, kS28, kS30, kS31, kS32, kS33, kS34, kS35, kS36, kS37, kS38, kS39, kS40, kS41, kS42, kS43, kS51, kS52, kS53, List.getElem?_cons_zero, List.getElem?_cons_succ, List.set_cons_zero, List.set_cons_succ, List.length_cons, List.length_nil, List.drop_succ_cons, List.drop_zero, List.cons_append, List.nil_append, Option.toList_some, Option.toList_none, cz, ci2, true_and, and_true, and_self, true_or, or_true, nI_1, Nat.reduceAdd, Nat.reduceLT, ev, r2', g1, g2]
        rw [hX2]
        refine ⟨⟨vl, vu, n3⟩, fun q2 => ?_, fun q2 => ?_⟩
        · have n2 : ¬ w % 3 = 2 := fun e => q2 ((hm 2 (by decide)).mpr e)
          refine ev_seg rfl ?_
          simp only [TE, sxs, sx, ldI, ldA, stI, stA, inc, gtF, ptF, ldX, stX, ldR, ldL, stL, dp1, dp2, Tm, kS0, kS1, kS2, kS3, kS4, kS5, kS6, kS7, kS8, kS9, kS10, kS11, kS12, kS13, kS14, kS15, kS16, kS17, kS18, kS19, kS20, kS21, kS22, kS23, kS24, kS25, kS26, kS27, kS28, kS30, kS31, kS32, kS33, kS34, kS35, kS36, kS37, kS38, kS39, kS40, kS41, kS42, kS43, kS51, kS52, kS53, List.getElem?_cons_zero, List.getElem?_cons_succ, List.set_cons_zero, List.set_cons_succ, List.length_cons, List.length_nil, List.drop_succ_cons, List.drop_zero, List.cons_append, List.nil_append, Option.toList_some, Option.toList_none, cz, ci2, true_and, and_true, and_self, true_or, or_true, nI_1, Nat.reduceAdd, Nat.reduceLT, g1, g2]
          refine ⟨n3, fun q1 => ?_, fun q1 => ?_⟩
          · have n1 : ¬ w % 3 = 1 := fun e => q1 ((hm 1 (by decide)).mpr e)
            rw [show w % 3 = 0 by omega] at t20
            refine ev_seg rfl ?_
            simp only [TE, sxs, sx, ldI, ldA, stI, stA, inc, gtF, ptF, ldX, stX, ldR, ldL, stL, dp1, dp2, Tm, kS0, kS1, kS2, kS3, kS4, kS5, kS6, kS7, kS8, kS9, kS10, kS11, kS12, kS13, kS14, kS15, kS16, kS17, kS18, kS19, kS20, kS21, kS22, kS23, kS24, kS25, kS26, kS27, kS28, kS30, kS31, kS32, kS33, kS34, kS35, kS36, kS37, kS38, kS39, kS40, kS41, kS42, kS43, kS51, kS52, kS53, List.getElem?_cons_zero, List.getElem?_cons_succ, List.set_cons_zero, List.set_cons_succ, List.length_cons, List.length_nil, List.drop_succ_cons, List.drop_zero, List.cons_append, List.nil_append, Option.toList_some, Option.toList_none, cz, ci2, true_and, and_true, and_self, true_or, or_true, nI_1, Nat.reduceAdd, Nat.reduceLT]
            exact t20
          · rw [(hm 1 (by decide)).mp (Classical.not_not.mp q1)] at t20
            refine ev_seg rfl ?_
            simp only [TE, sxs, sx, ldI, ldA, stI, stA, inc, gtF, ptF, ldX, stX, ldR, ldL, stL, dp1, dp2, Tm, kS0, kS1, kS2, kS3, kS4, kS5, kS6, kS7, kS8, kS9, kS10, kS11, kS12, kS13, kS14, kS15, kS16, kS17, kS18, kS19, kS20, kS21, kS22, kS23, kS24, kS25, kS26, kS27, kS28, kS30, kS31, kS32, kS33, kS34, kS35, kS36, kS37, kS38, kS39, kS40, kS41, kS42, kS43, kS51, kS52, kS53, List.getElem?_cons_zero, List.getElem?_cons_succ, List.set_cons_zero, List.set_cons_succ, List.length_cons, List.length_nil, List.drop_succ_cons, List.drop_zero, List.cons_append, List.nil_append, Option.toList_some, Option.toList_none, cz, ci2, true_and, and_true, and_self, true_or, or_true, nI_1, Nat.reduceAdd, Nat.reduceLT]
            exact t20
        · rw [(hm 2 (by decide)).mp (Classical.not_not.mp q2)] at t20
          refine ev_seg rfl ?_
          simp only [TE, sxs, sx, ldI, ldA, stI, stA, inc, gtF, ptF, ldX, stX, ldR, ldL, stL, dp1, dp2, Tm, kS0, kS1, kS2, kS3, kS4, kS5, kS6, kS7, kS8, kS9, kS10, kS11, kS12, kS13, kS14, kS15, kS16, kS17, kS18, kS19, kS20, kS21, kS22, kS23, kS24, kS25, kS26, kS27, kS28, kS30, kS31, kS32, kS33, kS34, kS35, kS36, kS37, kS38, kS39, kS40, kS41, kS42, kS43, kS51, kS52, kS53, List.getElem?_cons_zero, List.getElem?_cons_succ, List.set_cons_zero, List.set_cons_succ, List.length_cons, List.length_nil, List.drop_succ_cons, List.drop_zero, List.cons_append, List.nil_append, Option.toList_some, Option.toList_none, cz, ci2, true_and, and_true, and_self, true_or, or_true, nI_1, Nat.reduceAdd, Nat.reduceLT]
          exact t20
      refine ev_seg rfl ?_
      simp only [TE, sxs, sx, ldI, ldA, stI, stA, inc, gtF, ptF, ldX, stX, ldR, ldL, stL, dp1, dp2, Tm, kS0, kS1, kS2, kS3, kS4, kS5, kS6, kS7, kS8, kS9, kS10, kS11, kS12, kS13, kS14, kS15, kS16, kS17, kS18, kS19, kS20, kS21, kS22, kS23, kS24, kS25, kS26, kS27, kS28, kS30, kS31, kS32, kS33, kS34, kS35, kS36, kS37, kS38, kS39, kS40, kS41, kS42, kS43, kS51, kS52, kS53, List.getElem?_cons_zero, List.getElem?_cons_succ, List.set_cons_zero, List.set_cons_succ, List.length_cons, List.length_nil, List.drop_succ_cons, List.drop_zero, List.cons_append, List.nil_append, Option.toList_some, Option.toList_none, cz, ci2, true_and, and_true, and_self, true_or, or_true, nI_1, Nat.reduceAdd, Nat.reduceLT, s1.2.2.1]
      refine ⟨(by first | assumption | (and_intros <;> first | assumption | trivial | decide)), fun q => absurd q (nle hu (by omega)), fun _ => ?_⟩
      refine ev_seg rfl ?_
      simp only [TE, sxs, sx, ldI, ldA, stI, stA, inc, gtF, ptF, ldX, stX, ldR, ldL, stL, dp1, dp2, Tm, kS0, kS1, kS2, kS3, kS4, kS5, kS6, kS7, kS8, kS9, kS10, kS11, kS12, kS13, kS14, kS15, kS16, kS17, kS18, kS19, kS20, kS21, kS22, kS23, kS24, kS25, kS26, kS27, kS28, kS30, kS31, kS32, kS33, kS34, kS35, kS36, kS37, kS38, kS39, kS40, kS41, kS42, kS43, kS51, kS52, kS53, List.getElem?_cons_zero, List.getElem?_cons_succ, List.set_cons_zero, List.set_cons_succ, List.length_cons, List.length_nil, List.drop_succ_cons, List.drop_zero, List.cons_append, List.nil_append, Option.toList_some, Option.toList_none, cz, ci2, true_and, and_true, and_self, true_or, or_true, nI_1, Nat.reduceAdd, Nat.reduceLT, s1.2.1, nI_ad]
      refine ⟨vi, cv3 rfl rfl (by first | exact rfl | exact trivial) (hip) ?_⟩
      rw [bI_f (p := ¬ scM X b l u = -1) (fun q => q hr)]
      refine ev_seg rfl ?_
      simp only [TE, sxs, sx, ldI, ldA, stI, stA, inc, gtF, ptF, ldX, stX, ldR, ldL, stL, dp1, dp2, Tm, kS0, kS1, kS2, kS3, kS4, kS5, kS6, kS7, kS8, kS9, kS10, kS11, kS12, kS13, kS14, kS15, kS16, kS17, kS18, kS19, kS20, kS21, kS22, kS23, kS24, kS25, kS26, kS27, kS28, kS30, kS31, kS32, kS33, kS34, kS35, kS36, kS37, kS38, kS39, kS40, kS41, kS42, kS43, kS51, kS52, kS53, List.getElem?_cons_zero, List.getElem?_cons_succ, List.set_cons_zero, List.set_cons_succ, List.length_cons, List.length_nil, List.drop_succ_cons, List.drop_zero, List.cons_append, List.nil_append, Option.toList_some, Option.toList_none, cz, ci2, true_and, and_true, and_self, true_or, or_true, nI_1, Nat.reduceAdd, Nat.reduceLT]
      refine ⟨fun q => absurd trivial q, fun _ => ?_⟩
      refine ev_seg rfl ?_
      simp only [TE, sxs, sx, ldI, ldA, stI, stA, inc, gtF, ptF, ldX, stX, ldR, ldL, stL, dp1, dp2, Tm, kS0, kS1, kS2, kS3, kS4, kS5, kS6, kS7, kS8, kS9, kS10, kS11, kS12, kS13, kS14, kS15, kS16, kS17, kS18, kS19, kS20, kS21, kS22, kS23, kS24, kS25, kS26, kS27, kS28, kS30, kS31, kS32, kS33, kS34, kS35, kS36, kS37, kS38, kS39, kS40, kS41, kS42, kS43, kS51, kS52, kS53, List.getElem?_cons_zero, List.getElem?_cons_succ, List.set_cons_zero, List.set_cons_succ, List.length_cons, List.length_nil, List.drop_succ_cons, List.drop_zero, List.cons_append, List.nil_append, Option.toList_some, Option.toList_none, cz, ci2, true_and, and_true, and_self, true_or, or_true, nI_1, Nat.reduceAdd, Nat.reduceLT, hW l hl, g1, g2]
      refine ⟨(by first | assumption | (and_intros <;> first | assumption | trivial | decide)), fun q0 => ?_, fun q0 => ?_⟩
      · have n0 : ¬ w % 3 = 0 := fun e => q0 ((hm 0 (by decide)).mpr e)
        refine ev_seg rfl ?_
        simp only [TE, sxs, sx, ldI, ldA, stI, stA, inc, gtF, ptF, ldX, stX, ldR, ldL, stL, dp1, dp2, Tm, kS0, kS1, kS2, kS3, kS4, kS5, kS6, kS7, kS8, kS9, kS10, kS11, kS12, kS13, kS14, kS15, kS16, kS17, kS18, kS19, kS20, kS21, kS22, kS23, kS24, kS25, kS26, kS27, kS28, kS30, kS31, kS32, kS33, kS34, kS35, kS36, kS37, kS38, kS39, kS40, kS41, kS42, kS43, kS51, kS52, kS53, List.getElem?_cons_zero, List.getElem?_cons_succ, List.set_cons_zero, List.set_cons_succ, List.length_cons, List.length_nil, List.drop_succ_cons, List.drop_zero, List.cons_append, List.nil_append, Option.toList_some, Option.toList_none, cz, ci2, true_and, and_true, and_self, true_or, or_true, nI_1, Nat.reduceAdd, Nat.reduceLT, g1, g2]
        refine ⟨n3, fun q1 => ?_, fun q1 => ?_⟩
        · have n1 : ¬ w % 3 = 1 := fun e => q1 ((hm 1 (by decide)).mpr e)
          rw [show lowG (w % 3) = 0 by unfold lowG; rw [if_neg n0, if_neg n1]] at t15
          refine ev_seg rfl ?_
          simp only [TE, sxs, sx, ldI, ldA, stI, stA, inc, gtF, ptF, ldX, stX, ldR, ldL, stL, dp1, dp2, Tm, kS0, kS1, kS2, kS3, kS4, kS5, kS6, kS7, kS8, kS9, kS10, kS11, kS12, kS13, kS14, kS15, kS16, kS17, kS18, kS19, kS20, kS21, kS22, kS23, kS24, kS25, kS26, kS27, kS28, kS30, kS31, kS32, kS33, kS34, kS35, kS36, kS37, kS38, kS39, kS40, kS41, kS42, kS43, kS51, kS52, kS53, List.getElem?_cons_zero, List.getElem?_cons_succ, List.set_cons_zero, List.set_cons_succ, List.length_cons, List.length_nil, List.drop_succ_cons, List.drop_zero, List.cons_append, List.nil_append, Option.toList_some, Option.toList_none, cz, ci2, true_and, and_true, and_self, true_or, or_true, nI_1, Nat.reduceAdd, Nat.reduceLT]
          exact t15
        · rw [show lowG (w % 3) = 1 by rw [(hm 1 (by decide)).mp (Classical.not_not.mp q1)]; rfl] at t15
          refine ev_seg rfl ?_
          simp only [TE, sxs, sx, ldI, ldA, stI, stA, inc, gtF, ptF, ldX, stX, ldR, ldL, stL, dp1, dp2, Tm, kS0, kS1, kS2, kS3, kS4, kS5, kS6, kS7, kS8, kS9, kS10, kS11, kS12, kS13, kS14, kS15, kS16, kS17, kS18, kS19, kS20, kS21, kS22, kS23, kS24, kS25, kS26, kS27, kS28, kS30, kS31, kS32, kS33, kS34, kS35, kS36, kS37, kS38, kS39, kS40, kS41, kS42, kS43, kS51, kS52, kS53, List.getElem?_cons_zero, List.getElem?_cons_succ, List.set_cons_zero, List.set_cons_succ, List.length_cons, List.length_nil, List.drop_succ_cons, List.drop_zero, List.cons_append, List.nil_append, Option.toList_some, Option.toList_none, cz, ci2, true_and, and_true, and_self, true_or, or_true, nI_1, Nat.reduceAdd, Nat.reduceLT]
          exact t15
      · rw [show lowG (w % 3) = 3 by rw [(hm 0 (by decide)).mp (Classical.not_not.mp q0)]; rfl] at t15
        refine ev_seg rfl ?_
        simp only [TE, sxs, sx, ldI, ldA, stI, stA, inc, gtF, ptF, ldX, stX, ldR, ldL, stL, dp1, dp2, Tm, kS0, kS1, kS2, kS3, kS4, kS5, kS6, kS7, kS8, kS9, kS10, kS11, kS12, kS13, kS14, kS15, kS16, kS17, kS18, kS19, kS20, kS21, kS22, kS23, kS24, kS25, kS26, kS27, kS28, kS30, kS31, kS32, kS33, kS34, kS35, kS36, kS37, kS38, kS39, kS40, kS41, kS42, kS43, kS51, kS52, kS53, List.getElem?_cons_zero, List.getElem?_cons_succ, List.set_cons_zero, List.set_cons_succ, List.length_cons, List.length_nil, List.drop_succ_cons, List.drop_zero, List.cons_append, List.nil_append, Option.toList_some, Option.toList_none, cz, ci2, true_and, and_true, and_self, true_or, or_true, nI_1, Nat.reduceAdd, Nat.reduceLT]
        exact t15
    · have eL : (rowQ l u (q + 1)).filter (fun p => decide (scM X b p.1 p.2 = -1)) = (rowQ l (u + 1) q).filter (fun p => decide (scM X b p.1 p.2 = -1)) := by
        rw [rowQ, List.filter_cons, if_neg (by rw [decide_eq_true_eq]; exact hr)]
      obtain ⟨X', a1, a2, a3⟩ := ih (u + 1) X1 γ w (by omega) (by omega) hw hf hW
      refine ⟨X', a1, by rw [eL]; exact a2, fun way o Z hn => ?_⟩
      rw [eL] at hn
      have a3 := a3 way o Z hn
      refine ev_seg rfl ?_
      simp only [TE, sxs, sx, ldI, ldA, stI, stA, inc, gtF, ptF, ldX, stX, ldR, ldL, stL, dp1, dp2, Tm, kS0, kS1, kS2, kS3, kS4, kS5, kS6, kS7, kS8, kS9, kS10, kS11, kS12, kS13, kS14, kS15, kS16, kS17, kS18, kS19, kS20, kS21, kS22, kS23, kS24, kS25, kS26, kS27, kS28, kS30, kS31, kS32, kS33, kS34, kS35, kS36, kS37, kS38, kS39, kS40, kS41, kS42, kS43, kS51, kS52, kS53, List.getElem?_cons_zero, List.getElem?_cons_succ, List.set_cons_zero, List.set_cons_succ, List.length_cons, List.length_nil, List.drop_succ_cons, List.drop_zero, List.cons_append, List.nil_append, Option.toList_some, Option.toList_none, cz, ci2, true_and, and_true, and_self, true_or, or_true, nI_1, Nat.reduceAdd, Nat.reduceLT, s1.2.2.1]
      refine ⟨(by first | assumption | (and_intros <;> first | assumption | trivial | decide)), fun q => absurd q (nle hu (by omega)), fun _ => ?_⟩
      refine ev_seg rfl ?_
      simp only [TE, sxs, sx, ldI, ldA, stI, stA, inc, gtF, ptF, ldX, stX, ldR, ldL, stL, dp1, dp2, Tm, kS0, kS1, kS2, kS3, kS4, kS5, kS6, kS7, kS8, kS9, kS10, kS11, kS12, kS13, kS14, kS15, kS16, kS17, kS18, kS19, kS20, kS21, kS22, kS23, kS24, kS25, kS26, kS27, kS28, kS30, kS31, kS32, kS33, kS34, kS35, kS36, kS37, kS38, kS39, kS40, kS41, kS42, kS43, kS51, kS52, kS53, List.getElem?_cons_zero, List.getElem?_cons_succ, List.set_cons_zero, List.set_cons_succ, List.length_cons, List.length_nil, List.drop_succ_cons, List.drop_zero, List.cons_append, List.nil_append, Option.toList_some, Option.toList_none, cz, ci2, true_and, and_true, and_self, true_or, or_true, nI_1, Nat.reduceAdd, Nat.reduceLT, s1.2.1, nI_ad]
      refine ⟨vi, cv3 rfl rfl (by first | exact rfl | exact trivial) (hip) ?_⟩
      rw [bI_t (p := ¬ scM X b l u = -1) hr]
      refine ev_seg rfl ?_
      simp only [TE, sxs, sx, ldI, ldA, stI, stA, inc, gtF, ptF, ldX, stX, ldR, ldL, stL, dp1, dp2, Tm, kS0, kS1, kS2, kS3, kS4, kS5, kS6, kS7, kS8, kS9, kS10, kS11, kS12, kS13, kS14, kS15, kS16, kS17, kS18, kS19, kS20, kS21, kS22, kS23, kS24, kS25, kS26, kS27, kS28, kS30, kS31, kS32, kS33, kS34, kS35, kS36, kS37, kS38, kS39, kS40, kS41, kS42, kS43, kS51, kS52, kS53, List.getElem?_cons_zero, List.getElem?_cons_succ, List.set_cons_zero, List.set_cons_succ, List.length_cons, List.length_nil, List.drop_succ_cons, List.drop_zero, List.cons_append, List.nil_append, Option.toList_some, Option.toList_none, cz, ci2, true_and, and_true, and_self, true_or, or_true, nI_1, Nat.reduceAdd, Nat.reduceLT]
      refine ⟨fun _ => ?_, fun q => absurd (by decide) q⟩
      refine ev_seg rfl ?_
      simp only [TE, sxs, sx, ldI, ldA, stI, stA, inc, gtF, ptF, ldX, stX, ldR, ldL, stL, dp1, dp2, Tm, kS0, kS1, kS2, kS3, kS4, kS5, kS6, kS7, kS8, kS9, kS10, kS11, kS12, kS13, kS14, kS15, kS16, kS17, kS18, kS19, kS20, kS21, kS22, kS23, kS24, kS25, kS26, kS27, kS28, kS30, kS31, kS32, kS33, kS34, kS35, kS36, kS37, kS38, kS39, kS40, kS41, kS42, kS43, kS51, kS52, kS53, List.getElem?_cons_zero, List.getElem?_cons_succ, List.set_cons_zero, List.set_cons_succ, List.length_cons, List.length_nil, List.drop_succ_cons, List.drop_zero, List.cons_append, List.nil_append, Option.toList_some, Option.toList_none, cz, ci2, true_and, and_true, and_self, true_or, or_true, nI_1, Nat.reduceAdd, Nat.reduceLT]
      exact a3
theorem s_Mplays (h : MS X i b n) (hS : SY (scM X b) n) {w : Nat} (hw : w < 2 ^ 31) : ∃ X', Ev sc (d + 4) 135 0 (ent 135 [vR 30 0 0, vI (nI i), vI (nI w)]) [] X (.inl none) X' 0 ∧ Fr [42] X X' ∧ WP X' n (fp (PZM X b n) (lfA (scM X b) n) w) := by
  have h0 := h
  obtain ⟨⟨h1, h2, h3, h4⟩, h5, h6, h7⟩ := h
  have vi : vp_in (nI i) 6 := vpn (by omega) (by decide)
  have rows : ∀ (q l : Nat) (X1 : XT) (γ : Nat → Int) (w : Nat), l + q = n → w < 2 ^ 31 → Fr [42] X X1 → WP X1 n γ →
      ∃ X', Fr [42] X X' ∧ WP X' n (fp γ ((allQ n l q).filter (fun p => decide (scM X b p.1 p.2 = -1))) w) ∧ ∀ z2 z5, Ev sc (d + 4) 135 5 [vR 30 0 0, vI (nI i), z2, vI (nI w), vI (nI l), z5] [] X1 (.inl none) X' 0 := by
    intro q
    induction q with
    | zero =>
      intro l X1 γ w hq hw hf hW
      have s1 := h0.fr hf (by decide) (by decide) (by decide)
      refine ⟨X1, hf, hW, fun z2 z5 => ?_⟩
      refine ev_seg rfl ?_
      simp only [TE, sxs, sx, ldI, ldA, stI, stA, inc, gtF, ptF, ldX, stX, ldR, ldL, stL, dp1, dp2, Tm, kS0, kS1, kS2, kS3, kS4, kS5, kS6, kS7, kS8, kS9, kS10, kS11, kS12, kS13, kS14, kS15, kS16, kS17, kS18, kS19, kS20, kS21, kS22, kS23, kS24, kS25, kS26, kS27, kS28, kS30, kS31, kS32, kS33, kS34, kS35, kS36, kS37, kS38, kS39, kS40, kS41, kS42, kS43, kS51, kS52, kS53, List.getElem?_cons_zero, List.getElem?_cons_succ, List.set_cons_zero, List.set_cons_succ, List.length_cons, List.length_nil, List.drop_succ_cons, List.drop_zero, List.cons_append, List.nil_append, Option.toList_some, Option.toList_none, cz, ci2, true_and, and_true, and_self, true_or, or_true, nI_1, Nat.reduceAdd, Nat.reduceLT, s1.2.2.1]
      refine ⟨(by first | assumption | (and_intros <;> first | assumption | trivial | decide)), fun _ => ?_, fun w => absurd (nleI (by omega) (by omega)) w⟩
      refine ev_seg rfl ?_
      simp only [TE, sxs, sx, ldI, ldA, stI, stA, inc, gtF, ptF, ldX, stX, ldR, ldL, stL, dp1, dp2, Tm, kS0, kS1, kS2, kS3, kS4, kS5, kS6, kS7, kS8, kS9, kS10, kS11, kS12, kS13, kS14, kS15, kS16, kS17, kS18, kS19, kS20, kS21, kS22, kS23, kS24, kS25, kS26, kS27, kS28, kS30, kS31, kS32, kS33, kS34, kS35, kS36, kS37, kS38, kS39, kS40, kS41, kS42, kS43, kS51, kS52, kS53, List.getElem?_cons_zero, List.getElem?_cons_succ, List.set_cons_zero, List.set_cons_succ, List.length_cons, List.length_nil, List.drop_succ_cons, List.drop_zero, List.cons_append, List.nil_append, Option.toList_some, Option.toList_none, cz, ci2, true_and, and_true, and_self, true_or, or_true, nI_1, Nat.reduceAdd, Nat.reduceLT]
    | succ q ih =>
      intro l X1 γ w hq hw hf hW
      have s1 := h0.fr hf (by decide) (by decide) (by decide)
      have hw2 : w / 3 ^ ((rowQ l (l + 1) (n - (l + 1))).filter (fun p => decide (scM X b p.1 p.2 = -1))).length < 2 ^ 31 := Nat.lt_of_le_of_lt (Nat.div_le_self _ _) hw
      obtain ⟨X2, a1, a2, a3⟩ := pl_row (sc := sc) (d := d) h0 (l := l) (by omega) (n - (l + 1)) (l + 1) X1 γ w (by omega) (by omega) hw hf hW
      obtain ⟨X', b1, b2, b3⟩ := ih (l + 1) X2 _ _ (by omega) hw2 a1 a2
      refine ⟨X', b1, by rw [allQ, List.filter_append, fp_app]; exact b2, fun z2 z5 => ?_⟩
      have a3 := a3 z2 (.inl none) X' (fun z5 => by
        refine ev_seg rfl ?_
        simp only [TE, sxs, sx, ldI, ldA, stI, stA, inc, gtF, ptF, ldX, stX, ldR, ldL, stL, dp1, dp2, Tm, kS0, kS1, kS2, kS3, kS4, kS5, kS6, kS7, kS8, kS9, kS10, kS11, kS12, kS13, kS14, kS15, kS16, kS17, kS18, kS19, kS20, kS21, kS22, kS23, kS24, kS25, kS26, kS27, kS28, kS30, kS31, kS32, kS33, kS34, kS35, kS36, kS37, kS38, kS39, kS40, kS41, kS42, kS43, kS51, kS52, kS53, List.getElem?_cons_zero, List.getElem?_cons_succ, List.set_cons_zero, List.set_cons_succ, List.length_cons, List.length_nil, List.drop_succ_cons, List.drop_zero, List.cons_append, List.nil_append, Option.toList_some, Option.toList_none, cz, ci2, true_and, and_true, and_self, true_or, or_true, nI_1, Nat.reduceAdd, Nat.reduceLT]
        exact b3 _ _)
      refine ev_seg rfl ?_
      simp only [TE, sxs, sx, ldI, ldA, stI, stA, inc, gtF, ptF, ldX, stX, ldR, ldL, stL, dp1, dp2, Tm, kS0, kS1, kS2, kS3, kS4, kS5, kS6, kS7, kS8, kS9, kS10, kS11, kS12, kS13, kS14, kS15, kS16, kS17, kS18, kS19, kS20, kS21, kS22, kS23, kS24, kS25, kS26, kS27, kS28, kS30, kS31, kS32, kS33, kS34, kS35, kS36, kS37, kS38, kS39, kS40, kS41, kS42, kS43, kS51, kS52, kS53, List.getElem?_cons_zero, List.getElem?_cons_succ, List.set_cons_zero, List.set_cons_succ, List.length_cons, List.length_nil, List.drop_succ_cons, List.drop_zero, List.cons_append, List.nil_append, Option.toList_some, Option.toList_none, cz, ci2, true_and, and_true, and_self, true_or, or_true, nI_1, Nat.reduceAdd, Nat.reduceLT, s1.2.2.1]
      refine ⟨(by first | assumption | (and_intros <;> first | assumption | trivial | decide)), fun w => absurd w (nle (by omega : l < n) (by omega)), fun _ => ?_⟩
      refine ev_seg rfl ?_
      simp only [TE, sxs, sx, ldI, ldA, stI, stA, inc, gtF, ptF, ldX, stX, ldR, ldL, stL, dp1, dp2, Tm, kS0, kS1, kS2, kS3, kS4, kS5, kS6, kS7, kS8, kS9, kS10, kS11, kS12, kS13, kS14, kS15, kS16, kS17, kS18, kS19, kS20, kS21, kS22, kS23, kS24, kS25, kS26, kS27, kS28, kS30, kS31, kS32, kS33, kS34, kS35, kS36, kS37, kS38, kS39, kS40, kS41, kS42, kS43, kS51, kS52, kS53, List.getElem?_cons_zero, List.getElem?_cons_succ, List.set_cons_zero, List.set_cons_succ, List.length_cons, List.length_nil, List.drop_succ_cons, List.drop_zero, List.cons_append, List.nil_append, Option.toList_some, Option.toList_none, cz, ci2, true_and, and_true, and_self, true_or, or_true, nI_1, Nat.reduceAdd, Nat.reduceLT]
      exact a3
  have init : ∀ k, k ≤ n → ∀ X1 : XT, Fr [42] X X1 → (∀ j, j < k → X1.1 42 0 0 (nI j) = zI (PZM X b n j)) → ∃ X', Ev sc (d + 4) 135 1 [vR 30 0 0, vI (nI i), vI (nI w), vI (nI w), vI (nI k), av0] [] X1 (.inl none) X' 0 ∧ Fr [42] X X' ∧ WP X' n (fp (PZM X b n) (lfA (scM X b) n) w) := by
    apply loop_up
    · intro X1 hf hW
      have s1 := h0.fr hf (by decide) (by decide) (by decide)
      obtain ⟨X', a1, a2, a3⟩ := rows n 0 X1 (PZM X b n) w (by omega) hw hf hW
      refine ⟨X', ?_, a1, a2⟩
      have a3 := a3 (vI (nI w)) av0
      refine ev_seg rfl ?_
      simp only [TE, sxs, sx, ldI, ldA, stI, stA, inc, gtF, ptF, ldX, stX, ldR, ldL, stL, dp1, dp2, Tm, kS0, kS1, kS2, kS3, kS4, kS5, kS6, kS7, kS8, kS9, kS10, kS11, kS12, kS13, kS14, kS15, kS16, kS17, kS18, kS19, kS20, kS21, kS22, kS23, kS24, kS25, kS26, kS27, kS28, kS30, kS31, kS32, kS33, kS34, kS35, kS36, kS37, kS38, kS39, kS40, kS41, kS42, kS43, kS51, kS52, kS53, List.getElem?_cons_zero, List.getElem?_cons_succ, List.set_cons_zero, List.set_cons_succ, List.length_cons, List.length_nil, List.drop_succ_cons, List.drop_zero, List.cons_append, List.nil_append, Option.toList_some, Option.toList_none, cz, ci2, true_and, and_true, and_self, true_or, or_true, nI_1, Nat.reduceAdd, Nat.reduceLT, s1.2.2.1]
      refine ⟨(by first | assumption | (and_intros <;> first | assumption | trivial | decide)), fun _ => ?_, fun w => absurd (nleI (Nat.le_refl _) (by omega)) w⟩
      refine ev_seg rfl ?_
      simp only [TE, sxs, sx, ldI, ldA, stI, stA, inc, gtF, ptF, ldX, stX, ldR, ldL, stL, dp1, dp2, Tm, kS0, kS1, kS2, kS3, kS4, kS5, kS6, kS7, kS8, kS9, kS10, kS11, kS12, kS13, kS14, kS15, kS16, kS17, kS18, kS19, kS20, kS21, kS22, kS23, kS24, kS25, kS26, kS27, kS28, kS30, kS31, kS32, kS33, kS34, kS35, kS36, kS37, kS38, kS39, kS40, kS41, kS42, kS43, kS51, kS52, kS53, List.getElem?_cons_zero, List.getElem?_cons_succ, List.set_cons_zero, List.set_cons_succ, List.length_cons, List.length_nil, List.drop_succ_cons, List.drop_zero, List.cons_append, List.nil_append, Option.toList_some, Option.toList_none, cz, ci2, true_and, and_true, and_self, true_or, or_true, nI_1, Nat.reduceAdd, Nat.reduceLT]
      exact a3
    · intro k hk ih X1 hf hW
      have s1 := h0.fr hf (by decide) (by decide) (by decide)
      have vk : vp_in (nI k) 5 := vpn (by omega) (by decide)
      have hp := s_MpointsOf (sc := sc) (d := d) s1 (by rw [scM_fr hf (by decide)]; exact hS) hk
      rw [PM_fr hf (by decide) (by decide)] at hp
      obtain ⟨X', a1, a2, a3⟩ := ih (xs X1.1 42 0 0 (nI k) (PM X b n k), X1.2) (hf.tr (Fr.xs _ _ _ _ _ (List.mem_singleton.mpr rfl))) (fun j hj => by
        show xs X1.1 42 0 0 (nI k) (PM X b n k) 42 0 0 (nI j) = _
        by_cases hjk : j = k
        · rw [hjk, xs_self]
          exact (Int32.ofInt_toInt _).symm
        · rw [xs_nj _ _ _ _ _ (fun q => hjk (nI_inj (by omega) (by omega) q))]
          exact hW j (by omega))
      refine ⟨X', ?_, a2, a3⟩
      refine ev_seg rfl ?_
      simp only [TE, sxs, sx, ldI, ldA, stI, stA, inc, gtF, ptF, ldX, stX, ldR, ldL, stL, dp1, dp2, Tm, kS0, kS1, kS2, kS3, kS4, kS5, kS6, kS7, kS8, kS9, kS10, kS11, kS12, kS13, kS14, kS15, kS16, kS17, kS18, kS19, kS20, kS21, kS22, kS23, kS24, kS25, kS26, kS27, kS28, kS30, kS31, kS32, kS33, kS34, kS35, kS36, kS37, kS38, kS39, kS40, kS41, kS42, kS43, kS51, kS52, kS53, List.getElem?_cons_zero, List.getElem?_cons_succ, List.set_cons_zero, List.set_cons_succ, List.length_cons, List.length_nil, List.drop_succ_cons, List.drop_zero, List.cons_append, List.nil_append, Option.toList_some, Option.toList_none, cz, ci2, true_and, and_true, and_self, true_or, or_true, nI_1, Nat.reduceAdd, Nat.reduceLT, s1.2.2.1]
      refine ⟨(by first | assumption | (and_intros <;> first | assumption | trivial | decide)), fun w => absurd w (nle hk (by omega)), fun _ => ?_⟩
      refine ev_seg rfl ?_
      simp only [TE, sxs, sx, ldI, ldA, stI, stA, inc, gtF, ptF, ldX, stX, ldR, ldL, stL, dp1, dp2, Tm, kS0, kS1, kS2, kS3, kS4, kS5, kS6, kS7, kS8, kS9, kS10, kS11, kS12, kS13, kS14, kS15, kS16, kS17, kS18, kS19, kS20, kS21, kS22, kS23, kS24, kS25, kS26, kS27, kS28, kS30, kS31, kS32, kS33, kS34, kS35, kS36, kS37, kS38, kS39, kS40, kS41, kS42, kS43, kS51, kS52, kS53, List.getElem?_cons_zero, List.getElem?_cons_succ, List.set_cons_zero, List.set_cons_succ, List.length_cons, List.length_nil, List.drop_succ_cons, List.drop_zero, List.cons_append, List.nil_append, Option.toList_some, Option.toList_none, cz, ci2, true_and, and_true, and_self, true_or, or_true, nI_1, Nat.reduceAdd, Nat.reduceLT, s1.2.1, nI_ad]
      refine ⟨(by first | assumption | (and_intros <;> first | assumption | trivial | decide)), cv2 rfl rfl (by first | exact rfl | exact trivial) (hp) ?_⟩
      refine ev_seg rfl ?_
      simp only [TE, sxs, sx, ldI, ldA, stI, stA, inc, gtF, ptF, ldX, stX, ldR, ldL, stL, dp1, dp2, Tm, kS0, kS1, kS2, kS3, kS4, kS5, kS6, kS7, kS8, kS9, kS10, kS11, kS12, kS13, kS14, kS15, kS16, kS17, kS18, kS19, kS20, kS21, kS22, kS23, kS24, kS25, kS26, kS27, kS28, kS30, kS31, kS32, kS33, kS34, kS35, kS36, kS37, kS38, kS39, kS40, kS41, kS42, kS43, kS51, kS52, kS53, List.getElem?_cons_zero, List.getElem?_cons_succ, List.set_cons_zero, List.set_cons_succ, List.length_cons, List.length_nil, List.drop_succ_cons, List.drop_zero, List.cons_append, List.nil_append, Option.toList_some, Option.toList_none, cz, ci2, true_and, and_true, and_self, true_or, or_true, nI_1, Nat.reduceAdd, Nat.reduceLT]
      exact ⟨(by first | assumption | (and_intros <;> first | assumption | trivial | decide)), a1⟩
  obtain ⟨X', a1, a2, a3⟩ := init 0 (Nat.zero_le _) X (Fr.rf _ _) (fun j hj => absurd hj (by omega))
  refine ⟨X', ?_, a2, a3⟩
  rw [en135]
  refine ev_seg rfl ?_
  simp only [TE, sxs, sx, ldI, ldA, stI, stA, inc, gtF, ptF, ldX, stX, ldR, ldL, stL, dp1, dp2, Tm, kS0, kS1, kS2, kS3, kS4, kS5, kS6, kS7, kS8, kS9, kS10, kS11, kS12, kS13, kS14, kS15, kS16, kS17, kS18, kS19, kS20, kS21, kS22, kS23, kS24, kS25, kS26, kS27, kS28, kS30, kS31, kS32, kS33, kS34, kS35, kS36, kS37, kS38, kS39, kS40, kS41, kS42, kS43, kS51, kS52, kS53, List.getElem?_cons_zero, List.getElem?_cons_succ, List.set_cons_zero, List.set_cons_succ, List.length_cons, List.length_nil, List.drop_succ_cons, List.drop_zero, List.cons_append, List.nil_append, Option.toList_some, Option.toList_none, cz, ci2, true_and, and_true, and_self, true_or, or_true, nI_1, Nat.reduceAdd, Nat.reduceLT]
  exact a1
end Mpl
