/-! the matches that are left -/
/-- the pairs (l,u), (l,u+1), .. -/
def rowQ (l u : Nat) : Nat → List (Nat × Nat)
  | 0 => []
  | q + 1 => (l, u) :: rowQ l (u + 1) q
/-- all pairs from the row l on -/
def allQ (n l : Nat) : Nat → List (Nat × Nat)
  | 0 => []
  | q + 1 => rowQ l (l + 1) (n - (l + 1)) ++ allQ n (l + 1) q
/-- whether a match is one of a team, and left -/
def lfP (S : Nat → Nat → Int32) (seat : Int32) (own : Bool) (p : Nat × Nat) : Bool := (decide (nI p.1 = seat ∨ nI p.2 = seat) == own) && decide (S p.1 p.2 = -1)
theorem rowQ_len (l u : Nat) : ∀ q, (rowQ l u q).length = q
  | 0 => rfl
  | q + 1 => by rw [rowQ, List.length_cons, rowQ_len l (u + 1) q]
theorem rowQ_mem {l u : Nat} {p : Nat × Nat} : ∀ {q u}, p ∈ rowQ l u q → p.1 = l ∧ u ≤ p.2 ∧ p.2 < u + q
  | q + 1, u, h => by
    rw [rowQ, List.mem_cons] at h
    rcases h with rfl | h
    · exact ⟨rfl, Nat.le_refl _, by show u < u + (q + 1); omega⟩
    · have := rowQ_mem (u := u) h
      exact ⟨this.1, by omega, by omega⟩
theorem allQ_len5 : ∀ n, n ≤ 5 → (allQ n 0 n).length ≤ 10 := by decide +kernel
theorem allQ_mem {n : Nat} {p : Nat × Nat} : ∀ {q l}, l + q = n → p ∈ allQ n l q → l ≤ p.1 ∧ p.1 < p.2 ∧ p.2 < n
  | q + 1, l, hq, h => by
    rw [allQ, List.mem_append] at h
    rcases h with h | h
    · have := rowQ_mem (u := l + 1) h
      exact ⟨by omega, by omega, by omega⟩
    · have := allQ_mem (q := q) (l := l + 1) (by omega) h
      exact ⟨by omega, by omega, by omega⟩
/-- those left, the ones of a team behind the others -/
def lfO (S : Nat → Nat → Int32) (n : Nat) (seat : Int32) : List (Nat × Nat) := (allQ n 0 n).filter (lfP S seat false) ++ (allQ n 0 n).filter (lfP S seat true)
/-- those left -/
def lfA (S : Nat → Nat → Int32) (n : Nat) : List (Nat × Nat) := (allQ n 0 n).filter (fun p => decide (S p.1 p.2 = -1))
theorem flt_split (S : Nat → Nat → Int32) (seat : Int32) : ∀ L : List (Nat × Nat), (L.filter (lfP S seat false) ++ L.filter (lfP S seat true)).Perm (L.filter (fun p => decide (S p.1 p.2 = -1)))
  | [] => List.Perm.refl _
  | p :: L => by
    have ih := flt_split S seat L
    by_cases h : S p.1 p.2 = -1
    · rw [List.filter_cons (p := fun p : Nat × Nat => decide (S p.1 p.2 = -1)), if_pos (by rw [decide_eq_true_eq]; exact h)]
      by_cases h2 : nI p.1 = seat ∨ nI p.2 = seat
      · rw [List.filter_cons, List.filter_cons, if_neg (by unfold lfP; rw [decide_eq_true h2]; simp), if_pos (by unfold lfP; rw [decide_eq_true h2, decide_eq_true h]; rfl)]
        exact (List.perm_middle).trans (List.Perm.cons p ih)
      · rw [List.filter_cons, List.filter_cons, if_pos (by unfold lfP; rw [decide_eq_false h2, decide_eq_true h]; rfl), if_neg (by unfold lfP; rw [decide_eq_false h2]; simp)]
        exact List.Perm.cons p ih
    · have e1 : ∀ b, ¬ lfP S seat b p = true := fun b => by unfold lfP; rw [decide_eq_false h]; simp
      rw [List.filter_cons, List.filter_cons, if_neg (e1 _), if_neg (e1 _), List.filter_cons, if_neg (by rw [decide_eq_true_eq]; exact h)]
      exact ih
theorem lfO_perm (S : Nat → Nat → Int32) (n : Nat) (seat : Int32) : (lfO S n seat).Perm (lfA S n) := flt_split S seat _
theorem lfA_len {S : Nat → Nat → Int32} {n : Nat} (hn : n ≤ 5) : (lfA S n).length ≤ 10 := Nat.le_trans (List.length_filter_le _ _) (allQ_len5 n hn)
theorem lfO_len {S : Nat → Nat → Int32} {n : Nat} {seat : Int32} (hn : n ≤ 5) : (lfO S n seat).length ≤ 10 := by
  rw [(lfO_perm S n seat).length_eq]
  exact lfA_len hn
theorem lfO_all {S : Nat → Nat → Int32} {n : Nat} (hn : n ≤ 5) : lfO S n (-1) = lfA S n := by
  unfold lfO lfA
  have h0 : ∀ p, p ∈ allQ n 0 n → ¬ (nI p.1 = -1 ∨ nI p.2 = -1) := by
    intro p hp
    have := allQ_mem (q := n) (l := 0) (by omega) hp
    have hne : ∀ i, i < 5 → nI i ≠ -1 := by decide
    intro h
    rcases h with h | h
    · exact hne _ (by omega) h
    · exact hne _ (by omega) h
  have e1 : (allQ n 0 n).filter (lfP S (-1) true) = [] := by
    rw [List.filter_eq_nil_iff]
    intro p hp
    unfold lfP
    rw [decide_eq_false (h0 p hp)]
    simp
  rw [e1, List.append_nil]
  apply List.filter_congr
  intro p hp
  unfold lfP
  rw [decide_eq_false (h0 p hp)]
  simp
theorem lfA_mem {S : Nat → Nat → Int32} {n : Nat} {p : Nat × Nat} (h : p ∈ lfA S n) : p.1 < p.2 ∧ p.2 < n ∧ S p.1 p.2 = -1 := by
  unfold lfA at h
  rw [List.mem_filter, decide_eq_true_eq] at h
  have := allQ_mem (q := n) (l := 0) (by omega) h.1
  exact ⟨this.2.1, this.2.2, h.2⟩
theorem bI_xor {seat : Int32} {own : Bool} {p : Nat × Nat} : (bI (nI p.1 = seat ∨ nI p.2 = seat) = bI (own = true)) ↔ (decide (nI p.1 = seat ∨ nI p.2 = seat) == own) = true := by
  by_cases h : nI p.1 = seat ∨ nI p.2 = seat
  · rw [bI_t h, decide_eq_true h]
    cases own <;> decide
  · rw [bI_f h, decide_eq_false h]
    cases own <;> decide
section Lft20
variable {sc : SC} {d : Nat} {g : Int32} {X : XT}
/-- these matches are listed -/
def Lst20 (X : XT) (L : List (Nat × Nat)) : Prop := ∀ i, (h : i < L.length) → X.1 21 0 0 (nI i) = nI L[i].1 ∧ X.1 22 0 0 (nI i) = nI L[i].2
theorem Lst20.fr {K : List Nat} {X X' : XT} {L : List (Nat × Nat)} (h : Lst20 X L) (hf : Fr K X X') (h1 : 21 ∉ K) (h2 : 22 ∉ K) : Lst20 X' L := fun i hi => by
  rw [hf.at 21 h1, hf.at 22 h2]
  exact h i hi
theorem Lst20.push {L : List (Nat × Nat)} (h : Lst20 X L) (hl : L.length < 10) (a b : Nat) : Lst20 (xs (xs X.1 21 0 0 (nI L.length) (nI a)) 22 0 0 (nI L.length) (nI b), X.2) (L ++ [(a, b)]) := by
  intro i hi
  rw [List.length_append, List.length_singleton] at hi
  show xs (xs X.1 21 0 0 (nI L.length) (nI a)) 22 0 0 (nI L.length) (nI b) 21 0 0 (nI i) = _ ∧ xs (xs X.1 21 0 0 (nI L.length) (nI a)) 22 0 0 (nI L.length) (nI b) 22 0 0 (nI i) = _
  rw [show xs (xs X.1 21 0 0 (nI L.length) (nI a)) 22 0 0 (nI L.length) (nI b) 21 0 0 = xs X.1 21 0 0 (nI L.length) (nI a) 21 0 0 from xs_ne _ _ _ (by simp)]
  by_cases hi2 : i = L.length
  · subst hi2
    rw [xs_self, xs_self]
    simp
  · have hne : nI i ≠ nI L.length := fun q => hi2 (nI_inj (by omega) (by omega) q)
    rw [xs_nj _ _ _ _ _ hne, xs_nj _ _ _ _ _ hne, show xs X.1 21 0 0 (nI L.length) (nI a) 22 0 0 = X.1 22 0 0 from xs_ne _ _ _ (by simp), List.getElem_append_left (by omega)]
    exact h i (by omega)
theorem s_lowerOf20 {p : Int32} (hp : vp_in p 10) : Ev sc d 26 0 (ent 26 [vR 20 0 0, vI p]) [] X (.inl (some (.inl (X.1 21 0 0 p)))) X 0 := by
  rw [en26]
  refine ev_seg rfl ?_
  simp only [TE, sxs, sx, ldI, ldA, stI, stA, inc, gtF, ptF, ldX, stX, ldR, ldL, stL, dp1, dp2, Tm, kS0, kS1, kS2, kS3, kS4, kS5, kS6, kS7, kS8, kS9, kS10, kS11, kS12, kS13, kS14, kS15, kS16, kS17, kS18, kS19, kS20, kS21, kS22, kS23, kS24, kS25, kS26, kS27, kS28, kS30, kS31, kS32, kS33, kS34, kS35, kS36, kS37, kS38, kS39, kS40, kS41, kS42, kS43, kS51, kS52, kS53, List.getElem?_cons_zero, List.getElem?_cons_succ, List.set_cons_zero, List.set_cons_succ, List.length_cons, List.length_nil, List.drop_succ_cons, List.drop_zero, List.cons_append, List.nil_append, Option.toList_some, Option.toList_none, cz, ci2, true_and, and_true, and_self, true_or, or_true, nI_1, Nat.reduceAdd, Nat.reduceLT]
  exact hp
theorem s_upperOf20 {p : Int32} (hp : vp_in p 10) : Ev sc d 27 0 (ent 27 [vR 20 0 0, vI p]) [] X (.inl (some (.inl (X.1 22 0 0 p)))) X 0 := by
  rw [en27]
  refine ev_seg rfl ?_
  simp only [TE, sxs, sx, ldI, ldA, stI, stA, inc, gtF, ptF, ldX, stX, ldR, ldL, stL, dp1, dp2, Tm, kS0, kS1, kS2, kS3, kS4, kS5, kS6, kS7, kS8, kS9, kS10, kS11, kS12, kS13, kS14, kS15, kS16, kS17, kS18, kS19, kS20, kS21, kS22, kS23, kS24, kS25, kS26, kS27, kS28, kS30, kS31, kS32, kS33, kS34, kS35, kS36, kS37, kS38, kS39, kS40, kS41, kS42, kS43, kS51, kS52, kS53, List.getElem?_cons_zero, List.getElem?_cons_succ, List.set_cons_zero, List.set_cons_succ, List.length_cons, List.length_nil, List.drop_succ_cons, List.drop_zero, List.cons_append, List.nil_append, Option.toList_some, Option.toList_none, cz, ci2, true_and, and_true, and_self, true_or, or_true, nI_1, Nat.reduceAdd, Nat.reduceLT]
  exact hp
theorem add_row20 {n : Nat} {seat cb : Int32} {own : Bool} (hn5 : n ≤ 5) {l : Nat} (hl : l < n) : ∀ (q u : Nat) (X : XT) (L : List (Nat × Nat)) (z9 : AV), u + q = n → Lst20 X L → L.length + ((rowQ l u q).filter (lfP (scC X g) seat own)).length ≤ 10 →
    ∃ (X' : XT) (L' : List (Nat × Nat)) (z8 z9' : AV), Fr [21, 22] X X' ∧ Lst20 X' L' ∧ L' = L ++ (rowQ l u q).filter (lfP (scC X g) seat own) ∧
      ∀ o Z k, Ev sc (d + 1) 25 15 [vR 20 0 0, vR 2 0 g, vI seat, vI (bI (own = true)), vI cb, vI (nI L'.length), vI (nI n), vI (nI l), z8, z9'] [] X' o Z k → Ev sc (d + 1) 25 4 [vR 20 0 0, vR 2 0 g, vI seat, vI (bI (own = true)), vI cb, vI (nI L.length), vI (nI n), vI (nI l), vI (nI u), z9] [] X o Z k := by
  intro q
  induction q with
  | zero =>
    intro u X L z9 hq hL hlen
    refine ⟨X, L, vI (nI u), z9, Fr.rf _ _, hL, by simp [rowQ], fun o Z k h => ?_⟩
    refine ev_seg rfl ?_
    simp only [TE, sxs, sx, ldI, ldA, stI, stA, inc, gtF, ptF, ldX, stX, ldR, ldL, stL, dp1, dp2, Tm, kS0, kS1, kS2, kS3, kS4, kS5, kS6, kS7, kS8, kS9, kS10, kS11, kS12, kS13, kS14, kS15, kS16, kS17, kS18, kS19, kS20, kS21, kS22, kS23, kS24, kS25, kS26, kS27, kS28, kS30, kS31, kS32, kS33, kS34, kS35, kS36, kS37, kS38, kS39, kS40, kS41, kS42, kS43, kS51, kS52, kS53, List.getElem?_cons_zero, List.getElem?_cons_succ, List.set_cons_zero, List.set_cons_succ, List.length_cons, List.length_nil, List.drop_succ_cons, List.drop_zero, List.cons_append, List.nil_append, Option.toList_some, Option.toList_none, cz, ci2, true_and, and_true, and_self, true_or, or_true, nI_1, Nat.reduceAdd, Nat.reduceLT]
    refine ⟨fun _ => h, fun h => absurd (nleI (by omega) (by omega)) h⟩
  | succ q ih =>
    intro u X L z9 hq hL hlen
    have hv1 : vp_in (nI l) 5 := vpn (by omega) (by decide)
    have hv2 : vp_in (nI u) 5 := vpn (by omega) (by decide)
    have hof : ∀ o Z k, Ev sc (d + 1) 25 9 [vR 20 0 0, vR 2 0 g, vI seat, vI (bI (own = true)), vI cb, vI (nI L.length), vI (nI n), vI (nI l), vI (nI u), z9] [vI (bI (nI l = seat ∨ nI u = seat))] X o Z k → Ev sc (d + 1) 25 5 [vR 20 0 0, vR 2 0 g, vI seat, vI (bI (own = true)), vI cb, vI (nI L.length), vI (nI n), vI (nI l), vI (nI u), z9] [] X o Z k := by
      intro o Z k h
      refine ev_seg rfl ?_
      simp only [TE, sxs, sx, ldI, ldA, stI, stA, inc, gtF, ptF, ldX, stX, ldR, ldL, stL, dp1, dp2, Tm, kS0, kS1, kS2, kS3, kS4, kS5, kS6, kS7, kS8, kS9, kS10, kS11, kS12, kS13, kS14, kS15, kS16, kS17, kS18, kS19, kS20, kS21, kS22, kS23, kS24, kS25, kS26, kS27, kS28, kS30, kS31, kS32, kS33, kS34, kS35, kS36, kS37, kS38, kS39, kS40, kS41, kS42, kS43, kS51, kS52, kS53, List.getElem?_cons_zero, List.getElem?_cons_succ, List.set_cons_zero, List.set_cons_succ, List.length_cons, List.length_nil, List.drop_succ_cons, List.drop_zero, List.cons_append, List.nil_append, Option.toList_some, Option.toList_none, cz, ci2, true_and, and_true, and_self, true_or, or_true, nI_1, Nat.reduceAdd, Nat.reduceLT]
      refine ⟨fun h1 => ?_, fun h1 => ?_⟩
      · rw [bI_t (p := nI l = seat ∨ nI u = seat) (Or.inl h1)] at h
        refine ev_seg rfl ?_
        simp only [TE, sxs, sx, ldI, ldA, stI, stA, inc, gtF, ptF, ldX, stX, ldR, ldL, stL, dp1, dp2, Tm, kS0, kS1, kS2, kS3, kS4, kS5, kS6, kS7, kS8, kS9, kS10, kS11, kS12, kS13, kS14, kS15, kS16, kS17, kS18, kS19, kS20, kS21, kS22, kS23, kS24, kS25, kS26, kS27, kS28, kS30, kS31, kS32, kS33, kS34, kS35, kS36, kS37, kS38, kS39, kS40, kS41, kS42, kS43, kS51, kS52, kS53, List.getElem?_cons_zero, List.getElem?_cons_succ, List.set_cons_zero, List.set_cons_succ, List.length_cons, List.length_nil, List.drop_succ_cons, List.drop_zero, List.cons_append, List.nil_append, Option.toList_some, Option.toList_none, cz, ci2, true_and, and_true, and_self, true_or, or_true, nI_1, Nat.reduceAdd, Nat.reduceLT]
        exact h
      · refine ev_seg rfl ?_
        simp only [TE, sxs, sx, ldI, ldA, stI, stA, inc, gtF, ptF, ldX, stX, ldR, ldL, stL, dp1, dp2, Tm, kS0, kS1, kS2, kS3, kS4, kS5, kS6, kS7, kS8, kS9, kS10, kS11, kS12, kS13, kS14, kS15, kS16, kS17, kS18, kS19, kS20, kS21, kS22, kS23, kS24, kS25, kS26, kS27, kS28, kS30, kS31, kS32, kS33, kS34, kS35, kS36, kS37, kS38, kS39, kS40, kS41, kS42, kS43, kS51, kS52, kS53, List.getElem?_cons_zero, List.getElem?_cons_succ, List.set_cons_zero, List.set_cons_succ, List.length_cons, List.length_nil, List.drop_succ_cons, List.drop_zero, List.cons_append, List.nil_append, Option.toList_some, Option.toList_none, cz, ci2, true_and, and_true, and_self, true_or, or_true, nI_1, Nat.reduceAdd, Nat.reduceLT]
        refine ⟨fun h2 => ?_, fun h2 => ?_⟩
        · rw [bI_f (p := nI l = seat ∨ nI u = seat) (fun w => w.elim h1 h2)] at h
          refine ev_seg rfl ?_
          simp only [TE, sxs, sx, ldI, ldA, stI, stA, inc, gtF, ptF, ldX, stX, ldR, ldL, stL, dp1, dp2, Tm, kS0, kS1, kS2, kS3, kS4, kS5, kS6, kS7, kS8, kS9, kS10, kS11, kS12, kS13, kS14, kS15, kS16, kS17, kS18, kS19, kS20, kS21, kS22, kS23, kS24, kS25, kS26, kS27, kS28, kS30, kS31, kS32, kS33, kS34, kS35, kS36, kS37, kS38, kS39, kS40, kS41, kS42, kS43, kS51, kS52, kS53, List.getElem?_cons_zero, List.getElem?_cons_succ, List.set_cons_zero, List.set_cons_succ, List.length_cons, List.length_nil, List.drop_succ_cons, List.drop_zero, List.cons_append, List.nil_append, Option.toList_some, Option.toList_none, cz, ci2, true_and, and_true, and_self, true_or, or_true, nI_1, Nat.reduceAdd, Nat.reduceLT]
          exact h
        · rw [bI_t (p := nI l = seat ∨ nI u = seat) (Or.inr (Classical.not_not.mp h2))] at h
          refine ev_seg rfl ?_
          simp only [TE, sxs, sx, ldI, ldA, stI, stA, inc, gtF, ptF, ldX, stX, ldR, ldL, stL, dp1, dp2, Tm, kS0, kS1, kS2, kS3, kS4, kS5, kS6, kS7, kS8, kS9, kS10, kS11, kS12, kS13, kS14, kS15, kS16, kS17, kS18, kS19, kS20, kS21, kS22, kS23, kS24, kS25, kS26, kS27, kS28, kS30, kS31, kS32, kS33, kS34, kS35, kS36, kS37, kS38, kS39, kS40, kS41, kS42, kS43, kS51, kS52, kS53, List.getElem?_cons_zero, List.getElem?_cons_succ, List.set_cons_zero, List.set_cons_succ, List.length_cons, List.length_nil, List.drop_succ_cons, List.drop_zero, List.cons_append, List.nil_append, Option.toList_some, Option.toList_none, cz, ci2, true_and, and_true, and_self, true_or, or_true, nI_1, Nat.reduceAdd, Nat.reduceLT]
          exact h
    by_cases hin : lfP (scC X g) seat own (l, u) = true
    · rw [rowQ, List.filter_cons, if_pos hin, List.length_cons] at hlen
      have hv3 : vp_in (nI L.length) 10 := vpn (by omega) (by decide)
      unfold lfP at hin
      rw [Bool.and_eq_true, decide_eq_true_eq] at hin
      obtain ⟨h1, h2⟩ := hin
      have hb := bI_xor.mpr h1
      generalize hX2 : ((xs (xs X.1 21 0 0 (nI L.length) (nI l)) 22 0 0 (nI L.length) (nI u), X.2) : XT) = X2
      have f2 : Fr [21, 22] X X2 := by
        rw [← hX2]
        exact (Fr.xs X 0 0 (nI L.length) (nI l) (by decide : 21 ∈ [21, 22])).tr (Fr.xs (xs X.1 21 0 0 (nI L.length) (nI l), X.2) 0 0 (nI L.length) (nI u) (by decide : 22 ∈ [21, 22]))
      have hL2 : Lst20 X2 (L ++ [(l, u)]) := by
        rw [← hX2]
        exact hL.push (by omega) l u
      have hlen2 : (L ++ [(l, u)]).length = L.length + 1 := by simp
      obtain ⟨X', L', z8, z9', a1, a2, a3, a4⟩ := ih (u + 1) X2 (L ++ [(l, u)]) (vI (bI (nI l = seat ∨ nI u = seat))) (by omega) hL2 (by rw [scC_fr f2 (by decide), hlen2]; omega)
      refine ⟨X', L', z8, z9', f2.tr a1, a2, ?_, fun o Z k h => ?_⟩
      · rw [a3, scC_fr f2 (by decide), rowQ, List.filter_cons, if_pos (by unfold lfP; rw [Bool.and_eq_true, decide_eq_true_eq]; exact ⟨h1, h2⟩)]
        simp
      · have h4 := a4 o Z k h
        rw [hlen2] at h4
        refine ev_seg rfl ?_
        simp only [TE, sxs, sx, ldI, ldA, stI, stA, inc, gtF, ptF, ldX, stX, ldR, ldL, stL, dp1, dp2, Tm, kS0, kS1, kS2, kS3, kS4, kS5, kS6, kS7, kS8, kS9, kS10, kS11, kS12, kS13, kS14, kS15, kS16, kS17, kS18, kS19, kS20, kS21, kS22, kS23, kS24, kS25, kS26, kS27, kS28, kS30, kS31, kS32, kS33, kS34, kS35, kS36, kS37, kS38, kS39, kS40, kS41, kS42, kS43, kS51, kS52, kS53, List.getElem?_cons_zero, List.getElem?_cons_succ, List.set_cons_zero, List.set_cons_succ, List.length_cons, List.length_nil, List.drop_succ_cons, List.drop_zero, List.cons_append, List.nil_append, Option.toList_some, Option.toList_none, cz, ci2, true_and, and_true, and_self, true_or, or_true, nI_1, Nat.reduceAdd, Nat.reduceLT]
        refine ⟨fun h => absurd h (nle (by omega) (by omega)), fun _ => hof _ _ _ ?_⟩
        refine ev_seg rfl ?_
        simp only [TE, sxs, sx, ldI, ldA, stI, stA, inc, gtF, ptF, ldX, stX, ldR, ldL, stL, dp1, dp2, Tm, kS0, kS1, kS2, kS3, kS4, kS5, kS6, kS7, kS8, kS9, kS10, kS11, kS12, kS13, kS14, kS15, kS16, kS17, kS18, kS19, kS20, kS21, kS22, kS23, kS24, kS25, kS26, kS27, kS28, kS30, kS31, kS32, kS33, kS34, kS35, kS36, kS37, kS38, kS39, kS40, kS41, kS42, kS43, kS51, kS52, kS53, List.getElem?_cons_zero, List.getElem?_cons_succ, List.set_cons_zero, List.set_cons_succ, List.length_cons, List.length_nil, List.drop_succ_cons, List.drop_zero, List.cons_append, List.nil_append, Option.toList_some, Option.toList_none, cz, ci2, true_and, and_true, and_self, true_or, or_true, nI_1, Nat.reduceAdd, Nat.reduceLT]
        refine ⟨fun h => absurd hb h, fun _ => ?_⟩
        refine ev_seg rfl ?_
        simp only [TE, sxs, sx, ldI, ldA, stI, stA, inc, gtF, ptF, ldX, stX, ldR, ldL, stL, dp1, dp2, Tm, kS0, kS1, kS2, kS3, kS4, kS5, kS6, kS7, kS8, kS9, kS10, kS11, kS12, kS13, kS14, kS15, kS16, kS17, kS18, kS19, kS20, kS21, kS22, kS23, kS24, kS25, kS26, kS27, kS28, kS30, kS31, kS32, kS33, kS34, kS35, kS36, kS37, kS38, kS39, kS40, kS41, kS42, kS43, kS51, kS52, kS53, List.getElem?_cons_zero, List.getElem?_cons_succ, List.set_cons_zero, List.set_cons_succ, List.length_cons, List.length_nil, List.drop_succ_cons, List.drop_zero, List.cons_append, List.nil_append, Option.toList_some, Option.toList_none, cz, ci2, true_and, and_true, and_self, true_or, or_true, nI_1, Nat.reduceAdd, Nat.reduceLT]
        refine ⟨fun h => absurd h (nle (by omega : L.length < 10) (by decide)), fun _ => ?_⟩
        refine ev_seg rfl ?_
        simp only [TE, sxs, sx, ldI, ldA, stI, stA, inc, gtF, ptF, ldX, stX, ldR, ldL, stL, dp1, dp2, Tm, kS0, kS1, kS2, kS3, kS4, kS5, kS6, kS7, kS8, kS9, kS10, kS11, kS12, kS13, kS14, kS15, kS16, kS17, kS18, kS19, kS20, kS21, kS22, kS23, kS24, kS25, kS26, kS27, kS28, kS30, kS31, kS32, kS33, kS34, kS35, kS36, kS37, kS38, kS39, kS40, kS41, kS42, kS43, kS51, kS52, kS53, List.getElem?_cons_zero, List.getElem?_cons_succ, List.set_cons_zero, List.set_cons_succ, List.length_cons, List.length_nil, List.drop_succ_cons, List.drop_zero, List.cons_append, List.nil_append, Option.toList_some, Option.toList_none, cz, ci2, true_and, and_true, and_self, true_or, or_true, nI_1, Nat.reduceAdd, Nat.reduceLT]
        refine cv3 rfl rfl (by first | exact rfl | exact trivial) (s_hasResult hv1 hv2) ?_
        rw [bI_f (p := ¬ X.1 4 g (nI l) (nI u) = -1) (fun w => w h2)]
        refine ev_seg rfl ?_
        simp only [TE, sxs, sx, ldI, ldA, stI, stA, inc, gtF, ptF, ldX, stX, ldR, ldL, stL, dp1, dp2, Tm, kS0, kS1, kS2, kS3, kS4, kS5, kS6, kS7, kS8, kS9, kS10, kS11, kS12, kS13, kS14, kS15, kS16, kS17, kS18, kS19, kS20, kS21, kS22, kS23, kS24, kS25, kS26, kS27, kS28, kS30, kS31, kS32, kS33, kS34, kS35, kS36, kS37, kS38, kS39, kS40, kS41, kS42, kS43, kS51, kS52, kS53, List.getElem?_cons_zero, List.getElem?_cons_succ, List.set_cons_zero, List.set_cons_succ, List.length_cons, List.length_nil, List.drop_succ_cons, List.drop_zero, List.cons_append, List.nil_append, Option.toList_some, Option.toList_none, cz, ci2, true_and, and_true, and_self, true_or, or_true, nI_1, Nat.reduceAdd, Nat.reduceLT]
        refine ⟨fun h => absurd trivial h, fun _ => ?_⟩
        refine ev_seg rfl ?_
        simp only [TE, sxs, sx, ldI, ldA, stI, stA, inc, gtF, ptF, ldX, stX, ldR, ldL, stL, dp1, dp2, Tm, kS0, kS1, kS2, kS3, kS4, kS5, kS6, kS7, kS8, kS9, kS10, kS11, kS12, kS13, kS14, kS15, kS16, kS17, kS18, kS19, kS20, kS21, kS22, kS23, kS24, kS25, kS26, kS27, kS28, kS30, kS31, kS32, kS33, kS34, kS35, kS36, kS37, kS38, kS39, kS40, kS41, kS42, kS43, kS51, kS52, kS53, List.getElem?_cons_zero, List.getElem?_cons_succ, List.set_cons_zero, List.set_cons_succ, List.length_cons, List.length_nil, List.drop_succ_cons, List.drop_zero, List.cons_append, List.nil_append, Option.toList_some, Option.toList_none, cz, ci2, true_and, and_true, and_self, true_or, or_true, nI_1, Nat.reduceAdd, Nat.reduceLT]
        rw [hX2]
        refine ⟨(by first | assumption | (and_intros <;> first | assumption | trivial | decide)), ?_⟩
        refine ev_seg rfl ?_
        simp only [TE, sxs, sx, ldI, ldA, stI, stA, inc, gtF, ptF, ldX, stX, ldR, ldL, stL, dp1, dp2, Tm, kS0, kS1, kS2, kS3, kS4, kS5, kS6, kS7, kS8, kS9, kS10, kS11, kS12, kS13, kS14, kS15, kS16, kS17, kS18, kS19, kS20, kS21, kS22, kS23, kS24, kS25, kS26, kS27, kS28, kS30, kS31, kS32, kS33, kS34, kS35, kS36, kS37, kS38, kS39, kS40, kS41, kS42, kS43, kS51, kS52, kS53, List.getElem?_cons_zero, List.getElem?_cons_succ, List.set_cons_zero, List.set_cons_succ, List.length_cons, List.length_nil, List.drop_succ_cons, List.drop_zero, List.cons_append, List.nil_append, Option.toList_some, Option.toList_none, cz, ci2, true_and, and_true, and_self, true_or, or_true, nI_1, Nat.reduceAdd, Nat.reduceLT]
        exact h4
    · rw [rowQ, List.filter_cons, if_neg hin] at hlen
      obtain ⟨X', L', z8, z9', a1, a2, a3, a4⟩ := ih (u + 1) X L (vI (bI (nI l = seat ∨ nI u = seat))) (by omega) hL hlen
      refine ⟨X', L', z8, z9', a1, a2, ?_, fun o Z k h => ?_⟩
      · rw [a3, rowQ, List.filter_cons, if_neg hin]
      · have h4 := a4 o Z k h
        have h5 : Ev sc (d + 1) 25 14 [vR 20 0 0, vR 2 0 g, vI seat, vI (bI (own = true)), vI cb, vI (nI L.length), vI (nI n), vI (nI l), vI (nI u), vI (bI (nI l = seat ∨ nI u = seat))] [] X o Z k := by
          refine ev_seg rfl ?_
          simp only [TE, sxs, sx, ldI, ldA, stI, stA, inc, gtF, ptF, ldX, stX, ldR, ldL, stL, dp1, dp2, Tm, kS0, kS1, kS2, kS3, kS4, kS5, kS6, kS7, kS8, kS9, kS10, kS11, kS12, kS13, kS14, kS15, kS16, kS17, kS18, kS19, kS20, kS21, kS22, kS23, kS24, kS25, kS26, kS27, kS28, kS30, kS31, kS32, kS33, kS34, kS35, kS36, kS37, kS38, kS39, kS40, kS41, kS42, kS43, kS51, kS52, kS53, List.getElem?_cons_zero, List.getElem?_cons_succ, List.set_cons_zero, List.set_cons_succ, List.length_cons, List.length_nil, List.drop_succ_cons, List.drop_zero, List.cons_append, List.nil_append, Option.toList_some, Option.toList_none, cz, ci2, true_and, and_true, and_self, true_or, or_true, nI_1, Nat.reduceAdd, Nat.reduceLT]
          exact h4
        refine ev_seg rfl ?_
        simp only [TE, sxs, sx, ldI, ldA, stI, stA, inc, gtF, ptF, ldX, stX, ldR, ldL, stL, dp1, dp2, Tm, kS0, kS1, kS2, kS3, kS4, kS5, kS6, kS7, kS8, kS9, kS10, kS11, kS12, kS13, kS14, kS15, kS16, kS17, kS18, kS19, kS20, kS21, kS22, kS23, kS24, kS25, kS26, kS27, kS28, kS30, kS31, kS32, kS33, kS34, kS35, kS36, kS37, kS38, kS39, kS40, kS41, kS42, kS43, kS51, kS52, kS53, List.getElem?_cons_zero, List.getElem?_cons_succ, List.set_cons_zero, List.set_cons_succ, List.length_cons, List.length_nil, List.drop_succ_cons, List.drop_zero, List.cons_append, List.nil_append, Option.toList_some, Option.toList_none, cz, ci2, true_and, and_true, and_self, true_or, or_true, nI_1, Nat.reduceAdd, Nat.reduceLT]
        refine ⟨fun h => absurd h (nle (by omega) (by omega)), fun _ => hof _ _ _ ?_⟩
        refine ev_seg rfl ?_
        simp only [TE, sxs, sx, ldI, ldA, stI, stA, inc, gtF, ptF, ldX, stX, ldR, ldL, stL, dp1, dp2, Tm, kS0, kS1, kS2, kS3, kS4, kS5, kS6, kS7, kS8, kS9, kS10, kS11, kS12, kS13, kS14, kS15, kS16, kS17, kS18, kS19, kS20, kS21, kS22, kS23, kS24, kS25, kS26, kS27, kS28, kS30, kS31, kS32, kS33, kS34, kS35, kS36, kS37, kS38, kS39, kS40, kS41, kS42, kS43, kS51, kS52, kS53, List.getElem?_cons_zero, List.getElem?_cons_succ, List.set_cons_zero, List.set_cons_succ, List.length_cons, List.length_nil, List.drop_succ_cons, List.drop_zero, List.cons_append, List.nil_append, Option.toList_some, Option.toList_none, cz, ci2, true_and, and_true, and_self, true_or, or_true, nI_1, Nat.reduceAdd, Nat.reduceLT]
        refine ⟨fun _ => h5, fun hb => ?_⟩
        refine ev_seg rfl ?_
        simp only [TE, sxs, sx, ldI, ldA, stI, stA, inc, gtF, ptF, ldX, stX, ldR, ldL, stL, dp1, dp2, Tm, kS0, kS1, kS2, kS3, kS4, kS5, kS6, kS7, kS8, kS9, kS10, kS11, kS12, kS13, kS14, kS15, kS16, kS17, kS18, kS19, kS20, kS21, kS22, kS23, kS24, kS25, kS26, kS27, kS28, kS30, kS31, kS32, kS33, kS34, kS35, kS36, kS37, kS38, kS39, kS40, kS41, kS42, kS43, kS51, kS52, kS53, List.getElem?_cons_zero, List.getElem?_cons_succ, List.set_cons_zero, List.set_cons_succ, List.length_cons, List.length_nil, List.drop_succ_cons, List.drop_zero, List.cons_append, List.nil_append, Option.toList_some, Option.toList_none, cz, ci2, true_and, and_true, and_self, true_or, or_true, nI_1, Nat.reduceAdd, Nat.reduceLT]
        refine ⟨fun _ => h5, fun _ => ?_⟩
        refine ev_seg rfl ?_
        simp only [TE, sxs, sx, ldI, ldA, stI, stA, inc, gtF, ptF, ldX, stX, ldR, ldL, stL, dp1, dp2, Tm, kS0, kS1, kS2, kS3, kS4, kS5, kS6, kS7, kS8, kS9, kS10, kS11, kS12, kS13, kS14, kS15, kS16, kS17, kS18, kS19, kS20, kS21, kS22, kS23, kS24, kS25, kS26, kS27, kS28, kS30, kS31, kS32, kS33, kS34, kS35, kS36, kS37, kS38, kS39, kS40, kS41, kS42, kS43, kS51, kS52, kS53, List.getElem?_cons_zero, List.getElem?_cons_succ, List.set_cons_zero, List.set_cons_succ, List.length_cons, List.length_nil, List.drop_succ_cons, List.drop_zero, List.cons_append, List.nil_append, Option.toList_some, Option.toList_none, cz, ci2, true_and, and_true, and_self, true_or, or_true, nI_1, Nat.reduceAdd, Nat.reduceLT]
        refine cv3 rfl rfl (by first | exact rfl | exact trivial) (s_hasResult hv1 hv2) ?_
        have hres : ¬ X.1 4 g (nI l) (nI u) = -1 := fun w => hin (by
          unfold lfP
          rw [Bool.and_eq_true, decide_eq_true_eq]
          exact ⟨bI_xor.mp (Classical.not_not.mp hb), w⟩)
        rw [bI_t (p := ¬ X.1 4 g (nI l) (nI u) = -1) hres]
        refine ev_seg rfl ?_
        simp only [TE, sxs, sx, ldI, ldA, stI, stA, inc, gtF, ptF, ldX, stX, ldR, ldL, stL, dp1, dp2, Tm, kS0, kS1, kS2, kS3, kS4, kS5, kS6, kS7, kS8, kS9, kS10, kS11, kS12, kS13, kS14, kS15, kS16, kS17, kS18, kS19, kS20, kS21, kS22, kS23, kS24, kS25, kS26, kS27, kS28, kS30, kS31, kS32, kS33, kS34, kS35, kS36, kS37, kS38, kS39, kS40, kS41, kS42, kS43, kS51, kS52, kS53, List.getElem?_cons_zero, List.getElem?_cons_succ, List.set_cons_zero, List.set_cons_succ, List.length_cons, List.length_nil, List.drop_succ_cons, List.drop_zero, List.cons_append, List.nil_append, Option.toList_some, Option.toList_none, cz, ci2, true_and, and_true, and_self, true_or, or_true, nI_1, Nat.reduceAdd, Nat.reduceLT]
        refine ⟨fun _ => h5, fun h => absurd (by decide) h⟩
theorem s_add20 {n : Nat} {seat : Int32} {own : Bool} {L : List (Nat × Nat)} (hN : X.1 2 0 g 5 = nI n) (hn5 : n ≤ 5) (hL : Lst20 X L) (hlen : L.length + ((allQ n 0 n).filter (lfP (scC X g) seat own)).length ≤ 10) :
    ∃ (Z : XT) (L' : List (Nat × Nat)), Ev sc (d + 1) 25 0 (ent 25 [vR 20 0 0, vR 2 0 g, vI seat, vI (bI (own = true)), vI (nI L.length)]) [] X (.inl (some (.inl (nI L'.length)))) Z 0 ∧ Fr [21, 22] X Z ∧ Lst20 Z L' ∧ L' = L ++ (allQ n 0 n).filter (lfP (scC X g) seat own) := by
  have loop : ∀ (q l : Nat) (X1 : XT) (L1 : List (Nat × Nat)) (z8 z9 : AV), l + q = n → Fr [21, 22] X X1 → Lst20 X1 L1 → L1.length + ((allQ n l q).filter (lfP (scC X g) seat own)).length ≤ 10 →
      ∃ (Z : XT) (L' : List (Nat × Nat)), Ev sc (d + 1) 25 2 [vR 20 0 0, vR 2 0 g, vI seat, vI (bI (own = true)), vI (nI L.length), vI (nI L1.length), vI (nI n), vI (nI l), z8, z9] [] X1 (.inl (some (.inl (nI L'.length)))) Z 0 ∧ Fr [21, 22] X Z ∧ Lst20 Z L' ∧ L' = L1 ++ (allQ n l q).filter (lfP (scC X g) seat own) := by
    intro q
    induction q with
    | zero =>
      intro l X1 L1 z8 z9 hq hf hL1 hlen1
      refine ⟨X1, L1, ?_, hf, hL1, by simp [allQ]⟩
      refine ev_seg rfl ?_
      simp only [TE, sxs, sx, ldI, ldA, stI, stA, inc, gtF, ptF, ldX, stX, ldR, ldL, stL, dp1, dp2, Tm, kS0, kS1, kS2, kS3, kS4, kS5, kS6, kS7, kS8, kS9, kS10, kS11, kS12, kS13, kS14, kS15, kS16, kS17, kS18, kS19, kS20, kS21, kS22, kS23, kS24, kS25, kS26, kS27, kS28, kS30, kS31, kS32, kS33, kS34, kS35, kS36, kS37, kS38, kS39, kS40, kS41, kS42, kS43, kS51, kS52, kS53, List.getElem?_cons_zero, List.getElem?_cons_succ, List.set_cons_zero, List.set_cons_succ, List.length_cons, List.length_nil, List.drop_succ_cons, List.drop_zero, List.cons_append, List.nil_append, Option.toList_some, Option.toList_none, cz, ci2, true_and, and_true, and_self, true_or, or_true, nI_1, Nat.reduceAdd, Nat.reduceLT]
      refine ⟨fun _ => ?_, fun h => absurd (nleI (by omega) (by omega)) h⟩
      refine ev_seg rfl ?_
      simp only [TE, sxs, sx, ldI, ldA, stI, stA, inc, gtF, ptF, ldX, stX, ldR, ldL, stL, dp1, dp2, Tm, kS0, kS1, kS2, kS3, kS4, kS5, kS6, kS7, kS8, kS9, kS10, kS11, kS12, kS13, kS14, kS15, kS16, kS17, kS18, kS19, kS20, kS21, kS22, kS23, kS24, kS25, kS26, kS27, kS28, kS30, kS31, kS32, kS33, kS34, kS35, kS36, kS37, kS38, kS39, kS40, kS41, kS42, kS43, kS51, kS52, kS53, List.getElem?_cons_zero, List.getElem?_cons_succ, List.set_cons_zero, List.set_cons_succ, List.length_cons, List.length_nil, List.drop_succ_cons, List.drop_zero, List.cons_append, List.nil_append, Option.toList_some, Option.toList_none, cz, ci2, true_and, and_true, and_self, true_or, or_true, nI_1, Nat.reduceAdd, Nat.reduceLT]
    | succ q ih =>
      intro l X1 L1 z8 z9 hq hf hL1 hlen1
      rw [allQ, List.filter_append, List.length_append] at hlen1
      have e1 := scC_fr (g := g) hf (by decide)
      obtain ⟨X', L', y8, y9, a1, a2, a3, a4⟩ := add_row20 (sc := sc) (d := d) (g := g) (seat := seat) (cb := nI L.length) (own := own) hn5 (l := l) (by omega) (n - (l + 1)) (l + 1) X1 L1 z9 (by omega) hL1 (by rw [e1]; omega)
      rw [e1] at a3
      obtain ⟨Z, L2, b1, b2, b3, b4⟩ := ih (l + 1) X' L' y8 y9 (by omega) (hf.tr a1) a2 (by rw [a3, List.length_append]; omega)
      refine ⟨Z, L2, ?_, b2, b3, ?_⟩
      · refine ev_seg rfl ?_
        simp only [TE, sxs, sx, ldI, ldA, stI, stA, inc, gtF, ptF, ldX, stX, ldR, ldL, stL, dp1, dp2, Tm, kS0, kS1, kS2, kS3, kS4, kS5, kS6, kS7, kS8, kS9, kS10, kS11, kS12, kS13, kS14, kS15, kS16, kS17, kS18, kS19, kS20, kS21, kS22, kS23, kS24, kS25, kS26, kS27, kS28, kS30, kS31, kS32, kS33, kS34, kS35, kS36, kS37, kS38, kS39, kS40, kS41, kS42, kS43, kS51, kS52, kS53, List.getElem?_cons_zero, List.getElem?_cons_succ, List.set_cons_zero, List.set_cons_succ, List.length_cons, List.length_nil, List.drop_succ_cons, List.drop_zero, List.cons_append, List.nil_append, Option.toList_some, Option.toList_none, cz, ci2, true_and, and_true, and_self, true_or, or_true, nI_1, Nat.reduceAdd, Nat.reduceLT]
        refine ⟨fun h => absurd h (nle (by omega) (by omega)), fun _ => ?_⟩
        refine ev_seg rfl ?_
        simp only [TE, sxs, sx, ldI, ldA, stI, stA, inc, gtF, ptF, ldX, stX, ldR, ldL, stL, dp1, dp2, Tm, kS0, kS1, kS2, kS3, kS4, kS5, kS6, kS7, kS8, kS9, kS10, kS11, kS12, kS13, kS14, kS15, kS16, kS17, kS18, kS19, kS20, kS21, kS22, kS23, kS24, kS25, kS26, kS27, kS28, kS30, kS31, kS32, kS33, kS34, kS35, kS36, kS37, kS38, kS39, kS40, kS41, kS42, kS43, kS51, kS52, kS53, List.getElem?_cons_zero, List.getElem?_cons_succ, List.set_cons_zero, List.set_cons_succ, List.length_cons, List.length_nil, List.drop_succ_cons, List.drop_zero, List.cons_append, List.nil_append, Option.toList_some, Option.toList_none, cz, ci2, true_and, and_true, and_self, true_or, or_true, nI_1, Nat.reduceAdd, Nat.reduceLT]
        refine a4 _ _ _ ?_
        refine ev_seg rfl ?_
        simp only [TE, sxs, sx, ldI, ldA, stI, stA, inc, gtF, ptF, ldX, stX, ldR, ldL, stL, dp1, dp2, Tm, kS0, kS1, kS2, kS3, kS4, kS5, kS6, kS7, kS8, kS9, kS10, kS11, kS12, kS13, kS14, kS15, kS16, kS17, kS18, kS19, kS20, kS21, kS22, kS23, kS24, kS25, kS26, kS27, kS28, kS30, kS31, kS32, kS33, kS34, kS35, kS36, kS37, kS38, kS39, kS40, kS41, kS42, kS43, kS51, kS52, kS53, List.getElem?_cons_zero, List.getElem?_cons_succ, List.set_cons_zero, List.set_cons_succ, List.length_cons, List.length_nil, List.drop_succ_cons, List.drop_zero, List.cons_append, List.nil_append, Option.toList_some, Option.toList_none, cz, ci2, true_and, and_true, and_self, true_or, or_true, nI_1, Nat.reduceAdd, Nat.reduceLT]
        exact b1
      · rw [b4, a3, allQ, List.filter_append, List.append_assoc]
  obtain ⟨Z, L', b1, b2, b3, b4⟩ := loop n 0 X L av0 av0 (by omega) (Fr.rf _ _) hL hlen
  refine ⟨Z, L', ?_, b2, b3, b4⟩
  rw [en25]
  refine ev_seg rfl ?_
  simp only [TE, sxs, sx, ldI, ldA, stI, stA, inc, gtF, ptF, ldX, stX, ldR, ldL, stL, dp1, dp2, Tm, kS0, kS1, kS2, kS3, kS4, kS5, kS6, kS7, kS8, kS9, kS10, kS11, kS12, kS13, kS14, kS15, kS16, kS17, kS18, kS19, kS20, kS21, kS22, kS23, kS24, kS25, kS26, kS27, kS28, kS30, kS31, kS32, kS33, kS34, kS35, kS36, kS37, kS38, kS39, kS40, kS41, kS42, kS43, kS51, kS52, kS53, List.getElem?_cons_zero, List.getElem?_cons_succ, List.set_cons_zero, List.set_cons_succ, List.length_cons, List.length_nil, List.drop_succ_cons, List.drop_zero, List.cons_append, List.nil_append, Option.toList_some, Option.toList_none, cz, ci2, true_and, and_true, and_self, true_or, or_true, nI_1, Nat.reduceAdd, Nat.reduceLT]
  refine cv1 rfl rfl (by first | exact rfl | exact trivial) (s_size) ?_
  rw [hN]
  refine ev_seg rfl ?_
  simp only [TE, sxs, sx, ldI, ldA, stI, stA, inc, gtF, ptF, ldX, stX, ldR, ldL, stL, dp1, dp2, Tm, kS0, kS1, kS2, kS3, kS4, kS5, kS6, kS7, kS8, kS9, kS10, kS11, kS12, kS13, kS14, kS15, kS16, kS17, kS18, kS19, kS20, kS21, kS22, kS23, kS24, kS25, kS26, kS27, kS28, kS30, kS31, kS32, kS33, kS34, kS35, kS36, kS37, kS38, kS39, kS40, kS41, kS42, kS43, kS51, kS52, kS53, List.getElem?_cons_zero, List.getElem?_cons_succ, List.set_cons_zero, List.set_cons_succ, List.length_cons, List.length_nil, List.drop_succ_cons, List.drop_zero, List.cons_append, List.nil_append, Option.toList_some, Option.toList_none, cz, ci2, true_and, and_true, and_self, true_or, or_true, nI_1, Nat.reduceAdd, Nat.reduceLT]
  exact b1
/-- the matches, those of one team behind the others -/
theorem s_listOwnLast20 {n : Nat} {seat : Int32} (hN : X.1 2 0 g 5 = nI n) (hn5 : n ≤ 5) :
    ∃ (Z : XT) (L : List (Nat × Nat)), Ev sc (d + 2) 24 0 (ent 24 [vR 20 0 0, vR 2 0 g, vI seat]) [] X (.inl (some (.inl (nI L.length)))) Z 0 ∧ Fr [21, 22] X Z ∧ Lst20 Z L ∧ L = lfO (scC X g) n seat := by
  have hlen := lfO_len (S := scC X g) (seat := seat) hn5
  unfold lfO at hlen
  rw [List.length_append] at hlen
  obtain ⟨X1, L1, a1, a2, a3, a4⟩ := s_add20 (sc := sc) (d := d) (g := g) (X := X) (seat := seat) (own := false) (L := []) hN hn5 (fun i hi => absurd hi (by simp)) (by rw [List.length_nil]; omega)
  rw [List.nil_append] at a4
  have e1 := scC_fr (g := g) a2 (by decide)
  obtain ⟨X2, L2, b1, b2, b3, b4⟩ := s_add20 (sc := sc) (d := d) (g := g) (X := X1) (seat := seat) (own := true) (L := L1) (by rw [a2.at 2 (by decide)]; exact hN) hn5 a3 (by rw [a4, e1]; omega)
  rw [e1, a4] at b4
  refine ⟨X2, L2, ?_, a2.tr b2, b3, b4⟩
  rw [en24]
  refine ev_seg rfl ?_
  simp only [TE, sxs, sx, ldI, ldA, stI, stA, inc, gtF, ptF, ldX, stX, ldR, ldL, stL, dp1, dp2, Tm, kS0, kS1, kS2, kS3, kS4, kS5, kS6, kS7, kS8, kS9, kS10, kS11, kS12, kS13, kS14, kS15, kS16, kS17, kS18, kS19, kS20, kS21, kS22, kS23, kS24, kS25, kS26, kS27, kS28, kS30, kS31, kS32, kS33, kS34, kS35, kS36, kS37, kS38, kS39, kS40, kS41, kS42, kS43, kS51, kS52, kS53, List.getElem?_cons_zero, List.getElem?_cons_succ, List.set_cons_zero, List.set_cons_succ, List.length_cons, List.length_nil, List.drop_succ_cons, List.drop_zero, List.cons_append, List.nil_append, Option.toList_some, Option.toList_none, cz, ci2, true_and, and_true, and_self, true_or, or_true, nI_1, Nat.reduceAdd, Nat.reduceLT]
  refine cv5 rfl rfl (by first | exact rfl | exact trivial) (a1) ?_
  refine ev_seg rfl ?_
  simp only [TE, sxs, sx, ldI, ldA, stI, stA, inc, gtF, ptF, ldX, stX, ldR, ldL, stL, dp1, dp2, Tm, kS0, kS1, kS2, kS3, kS4, kS5, kS6, kS7, kS8, kS9, kS10, kS11, kS12, kS13, kS14, kS15, kS16, kS17, kS18, kS19, kS20, kS21, kS22, kS23, kS24, kS25, kS26, kS27, kS28, kS30, kS31, kS32, kS33, kS34, kS35, kS36, kS37, kS38, kS39, kS40, kS41, kS42, kS43, kS51, kS52, kS53, List.getElem?_cons_zero, List.getElem?_cons_succ, List.set_cons_zero, List.set_cons_succ, List.length_cons, List.length_nil, List.drop_succ_cons, List.drop_zero, List.cons_append, List.nil_append, Option.toList_some, Option.toList_none, cz, ci2, true_and, and_true, and_self, true_or, or_true, nI_1, Nat.reduceAdd, Nat.reduceLT]
  refine cv5 rfl rfl (by first | exact rfl | exact trivial) (b1) ?_
  refine ev_seg rfl ?_
  simp only [TE, sxs, sx, ldI, ldA, stI, stA, inc, gtF, ptF, ldX, stX, ldR, ldL, stL, dp1, dp2, Tm, kS0, kS1, kS2, kS3, kS4, kS5, kS6, kS7, kS8, kS9, kS10, kS11, kS12, kS13, kS14, kS15, kS16, kS17, kS18, kS19, kS20, kS21, kS22, kS23, kS24, kS25, kS26, kS27, kS28, kS30, kS31, kS32, kS33, kS34, kS35, kS36, kS37, kS38, kS39, kS40, kS41, kS42, kS43, kS51, kS52, kS53, List.getElem?_cons_zero, List.getElem?_cons_succ, List.set_cons_zero, List.set_cons_succ, List.length_cons, List.length_nil, List.drop_succ_cons, List.drop_zero, List.cons_append, List.nil_append, Option.toList_some, Option.toList_none, cz, ci2, true_and, and_true, and_self, true_or, or_true, nI_1, Nat.reduceAdd, Nat.reduceLT]
/-- the matches by their numbers -/
theorem s_list20 {n : Nat} (hN : X.1 2 0 g 5 = nI n) (hn5 : n ≤ 5) :
    ∃ (Z : XT) (L : List (Nat × Nat)), Ev sc (d + 3) 23 0 (ent 23 [vR 20 0 0, vR 2 0 g]) [] X (.inl (some (.inl (nI L.length)))) Z 0 ∧ Fr [21, 22] X Z ∧ Lst20 Z L ∧ L = lfA (scC X g) n := by
  obtain ⟨Z, L, a1, a2, a3, a4⟩ := s_listOwnLast20 (sc := sc) (d := d) (seat := -1) hN hn5
  refine ⟨Z, L, ?_, a2, a3, a4.trans (lfO_all hn5)⟩
  rw [en23]
  refine ev_seg rfl ?_
  simp only [TE, sxs, sx, ldI, ldA, stI, stA, inc, gtF, ptF, ldX, stX, ldR, ldL, stL, dp1, dp2, Tm, kS0, kS1, kS2, kS3, kS4, kS5, kS6, kS7, kS8, kS9, kS10, kS11, kS12, kS13, kS14, kS15, kS16, kS17, kS18, kS19, kS20, kS21, kS22, kS23, kS24, kS25, kS26, kS27, kS28, kS30, kS31, kS32, kS33, kS34, kS35, kS36, kS37, kS38, kS39, kS40, kS41, kS42, kS43, kS51, kS52, kS53, List.getElem?_cons_zero, List.getElem?_cons_succ, List.set_cons_zero, List.set_cons_succ, List.length_cons, List.length_nil, List.drop_succ_cons, List.drop_zero, List.cons_append, List.nil_append, Option.toList_some, Option.toList_none, cz, ci2, true_and, and_true, and_self, true_or, or_true, nI_1, Nat.reduceAdd, Nat.reduceLT]
  refine cv3 rfl rfl (by first | exact rfl | exact trivial) (a1) ?_
  refine ev_seg rfl ?_
  simp only [TE, sxs, sx, ldI, ldA, stI, stA, inc, gtF, ptF, ldX, stX, ldR, ldL, stL, dp1, dp2, Tm, kS0, kS1, kS2, kS3, kS4, kS5, kS6, kS7, kS8, kS9, kS10, kS11, kS12, kS13, kS14, kS15, kS16, kS17, kS18, kS19, kS20, kS21, kS22, kS23, kS24, kS25, kS26, kS27, kS28, kS30, kS31, kS32, kS33, kS34, kS35, kS36, kS37, kS38, kS39, kS40, kS41, kS42, kS43, kS51, kS52, kS53, List.getElem?_cons_zero, List.getElem?_cons_succ, List.set_cons_zero, List.set_cons_succ, List.length_cons, List.length_nil, List.drop_succ_cons, List.drop_zero, List.cons_append, List.nil_append, Option.toList_some, Option.toList_none, cz, ci2, true_and, and_true, and_self, true_or, or_true, nI_1, Nat.reduceAdd, Nat.reduceLT]
end Lft20
section Lft26
variable {sc : SC} {d : Nat} {g : Int32} {X : XT}
/-- these matches are listed -/
def Lst26 (X : XT) (L : List (Nat × Nat)) : Prop := ∀ i, (h : i < L.length) → X.1 27 0 0 (nI i) = nI L[i].1 ∧ X.1 28 0 0 (nI i) = nI L[i].2
theorem Lst26.fr {K : List Nat} {X X' : XT} {L : List (Nat × Nat)} (h : Lst26 X L) (hf : Fr K X X') (h1 : 27 ∉ K) (h2 : 28 ∉ K) : Lst26 X' L := fun i hi => by
  rw [hf.at 27 h1, hf.at 28 h2]
  exact h i hi
theorem Lst26.push {L : List (Nat × Nat)} (h : Lst26 X L) (hl : L.length < 10) (a b : Nat) : Lst26 (xs (xs X.1 27 0 0 (nI L.length) (nI a)) 28 0 0 (nI L.length) (nI b), X.2) (L ++ [(a, b)]) := by
  intro i hi
  rw [List.length_append, List.length_singleton] at hi
  show xs (xs X.1 27 0 0 (nI L.length) (nI a)) 28 0 0 (nI L.length) (nI b) 27 0 0 (nI i) = _ ∧ xs (xs X.1 27 0 0 (nI L.length) (nI a)) 28 0 0 (nI L.length) (nI b) 28 0 0 (nI i) = _
  rw [show xs (xs X.1 27 0 0 (nI L.length) (nI a)) 28 0 0 (nI L.length) (nI b) 27 0 0 = xs X.1 27 0 0 (nI L.length) (nI a) 27 0 0 from xs_ne _ _ _ (by simp)]
  by_cases hi2 : i = L.length
  · subst hi2
    rw [xs_self, xs_self]
    simp
  · have hne : nI i ≠ nI L.length := fun q => hi2 (nI_inj (by omega) (by omega) q)
    rw [xs_nj _ _ _ _ _ hne, xs_nj _ _ _ _ _ hne, show xs X.1 27 0 0 (nI L.length) (nI a) 28 0 0 = X.1 28 0 0 from xs_ne _ _ _ (by simp), List.getElem_append_left (by omega)]
    exact h i (by omega)
theorem s_lowerOf26 {p : Int32} (hp : vp_in p 10) : Ev sc d 26 0 (ent 26 [vR 26 0 0, vI p]) [] X (.inl (some (.inl (X.1 27 0 0 p)))) X 0 := by
  rw [en26]
  refine ev_seg rfl ?_
  simp only [TE, sxs, sx, ldI, ldA, stI, stA, inc, gtF, ptF, ldX, stX, ldR, ldL, stL, dp1, dp2, Tm, kS0, kS1, kS2, kS3, kS4, kS5, kS6, kS7, kS8, kS9, kS10, kS11, kS12, kS13, kS14, kS15, kS16, kS17, kS18, kS19, kS20, kS21, kS22, kS23, kS24, kS25, kS26, kS27, kS28, kS30, kS31, kS32, kS33, kS34, kS35, kS36, kS37, kS38, kS39, kS40, kS41, kS42, kS43, kS51, kS52, kS53, List.getElem?_cons_zero, List.getElem?_cons_succ, List.set_cons_zero, List.set_cons_succ, List.length_cons, List.length_nil, List.drop_succ_cons, List.drop_zero, List.cons_append, List.nil_append, Option.toList_some, Option.toList_none, cz, ci2, true_and, and_true, and_self, true_or, or_true, nI_1, Nat.reduceAdd, Nat.reduceLT]
  exact hp
theorem s_upperOf26 {p : Int32} (hp : vp_in p 10) : Ev sc d 27 0 (ent 27 [vR 26 0 0, vI p]) [] X (.inl (some (.inl (X.1 28 0 0 p)))) X 0 := by
  rw [en27]
  refine ev_seg rfl ?_
  simp only [TE, sxs, sx, ldI, ldA, stI, stA, inc, gtF, ptF, ldX, stX, ldR, ldL, stL, dp1, dp2, Tm, kS0, kS1, kS2, kS3, kS4, kS5, kS6, kS7, kS8, kS9, kS10, kS11, kS12, kS13, kS14, kS15, kS16, kS17, kS18, kS19, kS20, kS21, kS22, kS23, kS24, kS25, kS26, kS27, kS28, kS30, kS31, kS32, kS33, kS34, kS35, kS36, kS37, kS38, kS39, kS40, kS41, kS42, kS43, kS51, kS52, kS53, List.getElem?_cons_zero, List.getElem?_cons_succ, List.set_cons_zero, List.set_cons_succ, List.length_cons, List.length_nil, List.drop_succ_cons, List.drop_zero, List.cons_append, List.nil_append, Option.toList_some, Option.toList_none, cz, ci2, true_and, and_true, and_self, true_or, or_true, nI_1, Nat.reduceAdd, Nat.reduceLT]
  exact hp
theorem add_row26 {n : Nat} {seat cb : Int32} {own : Bool} (hn5 : n ≤ 5) {l : Nat} (hl : l < n) : ∀ (q u : Nat) (X : XT) (L : List (Nat × Nat)) (z9 : AV), u + q = n → Lst26 X L → L.length + ((rowQ l u q).filter (lfP (scC X g) seat own)).length ≤ 10 →
    ∃ (X' : XT) (L' : List (Nat × Nat)) (z8 z9' : AV), Fr [27, 28] X X' ∧ Lst26 X' L' ∧ L' = L ++ (rowQ l u q).filter (lfP (scC X g) seat own) ∧
      ∀ o Z k, Ev sc (d + 1) 25 15 [vR 26 0 0, vR 2 0 g, vI seat, vI (bI (own = true)), vI cb, vI (nI L'.length), vI (nI n), vI (nI l), z8, z9'] [] X' o Z k → Ev sc (d + 1) 25 4 [vR 26 0 0, vR 2 0 g, vI seat, vI (bI (own = true)), vI cb, vI (nI L.length), vI (nI n), vI (nI l), vI (nI u), z9] [] X o Z k := by
  intro q
  induction q with
  | zero =>
    intro u X L z9 hq hL hlen
    refine ⟨X, L, vI (nI u), z9, Fr.rf _ _, hL, by simp [rowQ], fun o Z k h => ?_⟩
    refine ev_seg rfl ?_
    simp only [TE, sxs, sx, ldI, ldA, stI, stA, inc, gtF, ptF, ldX, stX, ldR, ldL, stL, dp1, dp2, Tm, kS0, kS1, kS2, kS3, kS4, kS5, kS6, kS7, kS8, kS9, kS10, kS11, kS12, kS13, kS14, kS15, kS16, kS17, kS18, kS19, kS20, kS21, kS22, kS23, kS24, kS25, kS26, kS27, kS28, kS30, kS31, kS32, kS33, kS34, kS35, kS36, kS37, kS38, kS39, kS40, kS41, kS42, kS43, kS51, kS52, kS53, List.getElem?_cons_zero, List.getElem?_cons_succ, List.set_cons_zero, List.set_cons_succ, List.length_cons, List.length_nil, List.drop_succ_cons, List.drop_zero, List.cons_append, List.nil_append, Option.toList_some, Option.toList_none, cz, ci2, true_and, and_true, and_self, true_or, or_true, nI_1, Nat.reduceAdd, Nat.reduceLT]
    refine ⟨fun _ => h, fun h => absurd (nleI (by omega) (by omega)) h⟩
  | succ q ih =>
    intro u X L z9 hq hL hlen
    have hv1 : vp_in (nI l) 5 := vpn (by omega) (by decide)
    have hv2 : vp_in (nI u) 5 := vpn (by omega) (by decide)
    have hof : ∀ o Z k, Ev sc (d + 1) 25 9 [vR 26 0 0, vR 2 0 g, vI seat, vI (bI (own = true)), vI cb, vI (nI L.length), vI (nI n), vI (nI l), vI (nI u), z9] [vI (bI (nI l = seat ∨ nI u = seat))] X o Z k → Ev sc (d + 1) 25 5 [vR 26 0 0, vR 2 0 g, vI seat, vI (bI (own = true)), vI cb, vI (nI L.length), vI (nI n), vI (nI l), vI (nI u), z9] [] X o Z k := by
      intro o Z k h
      refine ev_seg rfl ?_
      simp only [TE, sxs, sx, ldI, ldA, stI, stA, inc, gtF, ptF, ldX, stX, ldR, ldL, stL, dp1, dp2, Tm, kS0, kS1, kS2, kS3, kS4, kS5, kS6, kS7, kS8, kS9, kS10, kS11, kS12, kS13, kS14, kS15, kS16, kS17, kS18, kS19, kS20, kS21, kS22, kS23, kS24, kS25, kS26, kS27, kS28, kS30, kS31, kS32, kS33, kS34, kS35, kS36, kS37, kS38, kS39, kS40, kS41, kS42, kS43, kS51, kS52, kS53, List.getElem?_cons_zero, List.getElem?_cons_succ, List.set_cons_zero, List.set_cons_succ, List.length_cons, List.length_nil, List.drop_succ_cons, List.drop_zero, List.cons_append, List.nil_append, Option.toList_some, Option.toList_none, cz, ci2, true_and, and_true, and_self, true_or, or_true, nI_1, Nat.reduceAdd, Nat.reduceLT]
      refine ⟨fun h1 => ?_, fun h1 => ?_⟩
      · rw [bI_t (p := nI l = seat ∨ nI u = seat) (Or.inl h1)] at h
        refine ev_seg rfl ?_
        simp only [TE, sxs, sx, ldI, ldA, stI, stA, inc, gtF, ptF, ldX, stX, ldR, ldL, stL, dp1, dp2, Tm, kS0, kS1, kS2, kS3, kS4, kS5, kS6, kS7, kS8, kS9, kS10, kS11, kS12, kS13, kS14, kS15, kS16, kS17, kS18, kS19, kS20, kS21, kS22, kS23, kS24, kS25, kS26, kS27, kS28, kS30, kS31, kS32, kS33, kS34, kS35, kS36, kS37, kS38, kS39, kS40, kS41, kS42, kS43, kS51, kS52, kS53, List.getElem?_cons_zero, List.getElem?_cons_succ, List.set_cons_zero, List.set_cons_succ, List.length_cons, List.length_nil, List.drop_succ_cons, List.drop_zero, List.cons_append, List.nil_append, Option.toList_some, Option.toList_none, cz, ci2, true_and, and_true, and_self, true_or, or_true, nI_1, Nat.reduceAdd, Nat.reduceLT]
        exact h
      · refine ev_seg rfl ?_
        simp only [TE, sxs, sx, ldI, ldA, stI, stA, inc, gtF, ptF, ldX, stX, ldR, ldL, stL, dp1, dp2, Tm, kS0, kS1, kS2, kS3, kS4, kS5, kS6, kS7, kS8, kS9, kS10, kS11, kS12, kS13, kS14, kS15, kS16, kS17, kS18, kS19, kS20, kS21, kS22, kS23, kS24, kS25, kS26, kS27, kS28, kS30, kS31, kS32, kS33, kS34, kS35, kS36, kS37, kS38, kS39, kS40, kS41, kS42, kS43, kS51, kS52, kS53, List.getElem?_cons_zero, List.getElem?_cons_succ, List.set_cons_zero, List.set_cons_succ, List.length_cons, List.length_nil, List.drop_succ_cons, List.drop_zero, List.cons_append, List.nil_append, Option.toList_some, Option.toList_none, cz, ci2, true_and, and_true, and_self, true_or, or_true, nI_1, Nat.reduceAdd, Nat.reduceLT]
        refine ⟨fun h2 => ?_, fun h2 => ?_⟩
        · rw [bI_f (p := nI l = seat ∨ nI u = seat) (fun w => w.elim h1 h2)] at h
          refine ev_seg rfl ?_
          simp only [TE, sxs, sx, ldI, ldA, stI, stA, inc, gtF, ptF, ldX, stX, ldR, ldL, stL, dp1, dp2, Tm, kS0, kS1, kS2, kS3, kS4, kS5, kS6, kS7, kS8, kS9, kS10, kS11, kS12, kS13, kS14, kS15, kS16, kS17, kS18, kS19, kS20, kS21, kS22, kS23, kS24, kS25, kS26, kS27, kS28, kS30, kS31, kS32, kS33, kS34, kS35, kS36, kS37, kS38, kS39, kS40, kS41, kS42, kS43, kS51, kS52, kS53, List.getElem?_cons_zero, List.getElem?_cons_succ, List.set_cons_zero, List.set_cons_succ, List.length_cons, List.length_nil, List.drop_succ_cons, List.drop_zero, List.cons_append, List.nil_append, Option.toList_some, Option.toList_none, cz, ci2, true_and, and_true, and_self, true_or, or_true, nI_1, Nat.reduceAdd, Nat.reduceLT]
          exact h
        · rw [bI_t (p := nI l = seat ∨ nI u = seat) (Or.inr (Classical.not_not.mp h2))] at h
          refine ev_seg rfl ?_
          simp only [TE, sxs, sx, ldI, ldA, stI, stA, inc, gtF, ptF, ldX, stX, ldR, ldL, stL, dp1, dp2, Tm, kS0, kS1, kS2, kS3, kS4, kS5, kS6, kS7, kS8, kS9, kS10, kS11, kS12, kS13, kS14, kS15, kS16, kS17, kS18, kS19, kS20, kS21, kS22, kS23, kS24, kS25, kS26, kS27, kS28, kS30, kS31, kS32, kS33, kS34, kS35, kS36, kS37, kS38, kS39, kS40, kS41, kS42, kS43, kS51, kS52, kS53, List.getElem?_cons_zero, List.getElem?_cons_succ, List.set_cons_zero, List.set_cons_succ, List.length_cons, List.length_nil, List.drop_succ_cons, List.drop_zero, List.cons_append, List.nil_append, Option.toList_some, Option.toList_none, cz, ci2, true_and, and_true, and_self, true_or, or_true, nI_1, Nat.reduceAdd, Nat.reduceLT]
          exact h
    by_cases hin : lfP (scC X g) seat own (l, u) = true
    · rw [rowQ, List.filter_cons, if_pos hin, List.length_cons] at hlen
      have hv3 : vp_in (nI L.length) 10 := vpn (by omega) (by decide)
      unfold lfP at hin
      rw [Bool.and_eq_true, decide_eq_true_eq] at hin
      obtain ⟨h1, h2⟩ := hin
      have hb := bI_xor.mpr h1
      generalize hX2 : ((xs (xs X.1 27 0 0 (nI L.length) (nI l)) 28 0 0 (nI L.length) (nI u), X.2) : XT) = X2
      have f2 : Fr [27, 28] X X2 := by
        rw [← hX2]
        exact (Fr.xs X 0 0 (nI L.length) (nI l) (by decide : 27 ∈ [27, 28])).tr (Fr.xs (xs X.1 27 0 0 (nI L.length) (nI l), X.2) 0 0 (nI L.length) (nI u) (by decide : 28 ∈ [27, 28]))
      have hL2 : Lst26 X2 (L ++ [(l, u)]) := by
        rw [← hX2]
        exact hL.push (by omega) l u
      have hlen2 : (L ++ [(l, u)]).length = L.length + 1 := by simp
      obtain ⟨X', L', z8, z9', a1, a2, a3, a4⟩ := ih (u + 1) X2 (L ++ [(l, u)]) (vI (bI (nI l = seat ∨ nI u = seat))) (by omega) hL2 (by rw [scC_fr f2 (by decide), hlen2]; omega)
      refine ⟨X', L', z8, z9', f2.tr a1, a2, ?_, fun o Z k h => ?_⟩
      · rw [a3, scC_fr f2 (by decide), rowQ, List.filter_cons, if_pos (by unfold lfP; rw [Bool.and_eq_true, decide_eq_true_eq]; exact ⟨h1, h2⟩)]
        simp
      · have h4 := a4 o Z k h
        rw [hlen2] at h4
        refine ev_seg rfl ?_
        simp only [TE, sxs, sx, ldI, ldA, stI, stA, inc, gtF, ptF, ldX, stX, ldR, ldL, stL, dp1, dp2, Tm, kS0, kS1, kS2, kS3, kS4, kS5, kS6, kS7, kS8, kS9, kS10, kS11, kS12, kS13, kS14, kS15, kS16, kS17, kS18, kS19, kS20, kS21, kS22, kS23, kS24, kS25, kS26, kS27, kS28, kS30, kS31, kS32, kS33, kS34, kS35, kS36, kS37, kS38, kS39, kS40, kS41, kS42, kS43, kS51, kS52, kS53, List.getElem?_cons_zero, List.getElem?_cons_succ, List.set_cons_zero, List.set_cons_succ, List.length_cons, List.length_nil, List.drop_succ_cons, List.drop_zero, List.cons_append, List.nil_append, Option.toList_some, Option.toList_none, cz, ci2, true_and, and_true, and_self, true_or, or_true, nI_1, Nat.reduceAdd, Nat.reduceLT]
        refine ⟨fun h => absurd h (nle (by omega) (by omega)), fun _ => hof _ _ _ ?_⟩
        refine ev_seg rfl ?_
        simp only [TE, sxs, sx, ldI, ldA, stI, stA, inc, gtF, ptF, ldX, stX, ldR, ldL, stL, dp1, dp2, Tm, kS0, kS1, kS2, kS3, kS4, kS5, kS6, kS7, kS8, kS9, kS10, kS11, kS12, kS13, kS14, kS15, kS16, kS17, kS18, kS19, kS20, kS21, kS22, kS23, kS24, kS25, kS26, kS27, kS28, kS30, kS31, kS32, kS33, kS34, kS35, kS36, kS37, kS38, kS39, kS40, kS41, kS42, kS43, kS51, kS52, kS53, List.getElem?_cons_zero, List.getElem?_cons_succ, List.set_cons_zero, List.set_cons_succ, List.length_cons, List.length_nil, List.drop_succ_cons, List.drop_zero, List.cons_append, List.nil_append, Option.toList_some, Option.toList_none, cz, ci2, true_and, and_true, and_self, true_or, or_true, nI_1, Nat.reduceAdd, Nat.reduceLT]
        refine ⟨fun h => absurd hb h, fun _ => ?_⟩
        refine ev_seg rfl ?_
        simp only [TE, sxs, sx, ldI, ldA, stI, stA, inc, gtF, ptF, ldX, stX, ldR, ldL, stL, dp1, dp2, Tm, kS0, kS1, kS2, kS3, kS4, kS5, kS6, kS7, kS8, kS9, kS10, kS11, kS12, kS13, kS14, kS15, kS16, kS17, kS18, kS19, kS20, kS21, kS22, kS23, kS24, kS25, kS26, kS27, kS28, kS30, kS31, kS32, kS33, kS34, kS35, kS36, kS37, kS38, kS39, kS40, kS41, kS42, kS43, kS51, kS52, kS53, List.getElem?_cons_zero, List.getElem?_cons_succ, List.set_cons_zero, List.set_cons_succ, List.length_cons, List.length_nil, List.drop_succ_cons, List.drop_zero, List.cons_append, List.nil_append, Option.toList_some, Option.toList_none, cz, ci2, true_and, and_true, and_self, true_or, or_true, nI_1, Nat.reduceAdd, Nat.reduceLT]
        refine ⟨fun h => absurd h (nle (by omega : L.length < 10) (by decide)), fun _ => ?_⟩
        refine ev_seg rfl ?_
        simp only [TE, sxs, sx, ldI, ldA, stI, stA, inc, gtF, ptF, ldX, stX, ldR, ldL, stL, dp1, dp2, Tm, kS0, kS1, kS2, kS3, kS4, kS5, kS6, kS7, kS8, kS9, kS10, kS11, kS12, kS13, kS14, kS15, kS16, kS17, kS18, kS19, kS20, kS21, kS22, kS23, kS24, kS25, kS26, kS27, kS28, kS30, kS31, kS32, kS33, kS34, kS35, kS36, kS37, kS38, kS39, kS40, kS41, kS42, kS43, kS51, kS52, kS53, List.getElem?_cons_zero, List.getElem?_cons_succ, List.set_cons_zero, List.set_cons_succ, List.length_cons, List.length_nil, List.drop_succ_cons, List.drop_zero, List.cons_append, List.nil_append, Option.toList_some, Option.toList_none, cz, ci2, true_and, and_true, and_self, true_or, or_true, nI_1, Nat.reduceAdd, Nat.reduceLT]
        refine cv3 rfl rfl (by first | exact rfl | exact trivial) (s_hasResult hv1 hv2) ?_
        rw [bI_f (p := ¬ X.1 4 g (nI l) (nI u) = -1) (fun w => w h2)]
        refine ev_seg rfl ?_
        simp only [TE, sxs, sx, ldI, ldA, stI, stA, inc, gtF, ptF, ldX, stX, ldR, ldL, stL, dp1, dp2, Tm, kS0, kS1, kS2, kS3, kS4, kS5, kS6, kS7, kS8, kS9, kS10, kS11, kS12, kS13, kS14, kS15, kS16, kS17, kS18, kS19, kS20, kS21, kS22, kS23, kS24, kS25, kS26, kS27, kS28, kS30, kS31, kS32, kS33, kS34, kS35, kS36, kS37, kS38, kS39, kS40, kS41, kS42, kS43, kS51, kS52, kS53, List.getElem?_cons_zero, List.getElem?_cons_succ, List.set_cons_zero, List.set_cons_succ, List.length_cons, List.length_nil, List.drop_succ_cons, List.drop_zero, List.cons_append, List.nil_append, Option.toList_some, Option.toList_none, cz, ci2, true_and, and_true, and_self, true_or, or_true, nI_1, Nat.reduceAdd, Nat.reduceLT]
        refine ⟨fun h => absurd trivial h, fun _ => ?_⟩
        refine ev_seg rfl ?_
        simp only [TE, sxs, sx, ldI, ldA, stI, stA, inc, gtF, ptF, ldX, stX, ldR, ldL, stL, dp1, dp2, Tm, kS0, kS1, kS2, kS3, kS4, kS5, kS6, kS7, kS8, kS9, kS10, kS11, kS12, kS13, kS14, kS15, kS16, kS17, kS18, kS19, kS20, kS21, kS22, kS23, kS24, kS25, kS26, kS27, kS28, kS30, kS31, kS32, kS33, kS34, kS35, kS36, kS37, kS38, kS39, kS40, kS41, kS42, kS43, kS51, kS52, kS53, List.getElem?_cons_zero, List.getElem?_cons_succ, List.set_cons_zero, List.set_cons_succ, List.length_cons, List.length_nil, List.drop_succ_cons, List.drop_zero, List.cons_append, List.nil_append, Option.toList_some, Option.toList_none, cz, ci2, true_and, and_true, and_self, true_or, or_true, nI_1, Nat.reduceAdd, Nat.reduceLT]
        rw [hX2]
        refine ⟨(by first | assumption | (and_intros <;> first | assumption | trivial | decide)), ?_⟩
        refine ev_seg rfl ?_
        simp only [TE, sxs, sx, ldI, ldA, stI, stA, inc, gtF, ptF, ldX, stX, ldR, ldL, stL, dp1, dp2, Tm, kS0, kS1, kS2, kS3, kS4, kS5, kS6, kS7, kS8, kS9, kS10, kS11, kS12, kS13, kS14, kS15, kS16, kS17, kS18, kS19, kS20, kS21, kS22, kS23, kS24, kS25, kS26, kS27, kS28, kS30, kS31, kS32, kS33, kS34, kS35, kS36, kS37, kS38, kS39, kS40, kS41, kS42, kS43, kS51, kS52, kS53, List.getElem?_cons_zero, List.getElem?_cons_succ, List.set_cons_zero, List.set_cons_succ, List.length_cons, List.length_nil, List.drop_succ_cons, List.drop_zero, List.cons_append, List.nil_append, Option.toList_some, Option.toList_none, cz, ci2, true_and, and_true, and_self, true_or, or_true, nI_1, Nat.reduceAdd, Nat.reduceLT]
        exact h4
    · rw [rowQ, List.filter_cons, if_neg hin] at hlen
      obtain ⟨X', L', z8, z9', a1, a2, a3, a4⟩ := ih (u + 1) X L (vI (bI (nI l = seat ∨ nI u = seat))) (by omega) hL hlen
      refine ⟨X', L', z8, z9', a1, a2, ?_, fun o Z k h => ?_⟩
      · rw [a3, rowQ, List.filter_cons, if_neg hin]
      · have h4 := a4 o Z k h
        have h5 : Ev sc (d + 1) 25 14 [vR 26 0 0, vR 2 0 g, vI seat, vI (bI (own = true)), vI cb, vI (nI L.length), vI (nI n), vI (nI l), vI (nI u), vI (bI (nI l = seat ∨ nI u = seat))] [] X o Z k := by
          refine ev_seg rfl ?_
          simp only [TE, sxs, sx, ldI, ldA, stI, stA, inc, gtF, ptF, ldX, stX, ldR, ldL, stL, dp1, dp2, Tm, kS0, kS1, kS2, kS3, kS4, kS5, kS6, kS7, kS8, kS9, kS10, kS11, kS12, kS13, kS14, kS15, kS16, kS17, kS18, kS19, kS20, kS21, kS22, kS23, kS24, kS25, kS26, kS27, kS28, kS30, kS31, kS32, kS33, kS34, kS35, kS36, kS37, kS38, kS39, kS40, kS41, kS42, kS43, kS51, kS52, kS53, List.getElem?_cons_zero, List.getElem?_cons_succ, List.set_cons_zero, List.set_cons_succ, List.length_cons, List.length_nil, List.drop_succ_cons, List.drop_zero, List.cons_append, List.nil_append, Option.toList_some, Option.toList_none, cz, ci2, true_and, and_true, and_self, true_or, or_true, nI_1, Nat.reduceAdd, Nat.reduceLT]
          exact h4
        refine ev_seg rfl ?_
        simp only [TE, sxs, sx, ldI, ldA, stI, stA, inc, gtF, ptF, ldX, stX, ldR, ldL, stL, dp1, dp2, Tm, kS0, kS1, kS2, kS3, kS4, kS5, kS6, kS7, kS8, kS9, kS10, kS11, kS12, kS13, kS14, kS15, kS16, kS17, kS18, kS19, kS20, kS21, kS22, kS23, kS24, kS25, kS26, kS27, kS28, kS30, kS31, kS32, kS33, kS34, kS35, kS36, kS37, kS38, kS39, kS40, kS41, kS42, kS43, kS51, kS52, kS53, List.getElem?_cons_zero, List.getElem?_cons_succ, List.set_cons_zero, List.set_cons_succ, List.length_cons, List.length_nil, List.drop_succ_cons, List.drop_zero, List.cons_append, List.nil_append, Option.toList_some, Option.toList_none, cz, ci2, true_and, and_true, and_self, true_or, or_true, nI_1, Nat.reduceAdd, Nat.reduceLT]
        refine ⟨fun h => absurd h (nle (by omega) (by omega)), fun _ => hof _ _ _ ?_⟩
        refine ev_seg rfl ?_
        simp only [TE, sxs, sx, ldI, ldA, stI, stA, inc, gtF, ptF, ldX, stX, ldR, ldL, stL, dp1, dp2, Tm, kS0, kS1, kS2, kS3, kS4, kS5, kS6, kS7, kS8, kS9, kS10, kS11, kS12, kS13, kS14, kS15, kS16, kS17, kS18, kS19, kS20, kS21, kS22, kS23, kS24, kS25, kS26, kS27, kS28, kS30, kS31, kS32, kS33, kS34, kS35, kS36, kS37, kS38, kS39, kS40, kS41, kS42, kS43, kS51, kS52, kS53, List.getElem?_cons_zero, List.getElem?_cons_succ, List.set_cons_zero, List.set_cons_succ, List.length_cons, List.length_nil, List.drop_succ_cons, List.drop_zero, List.cons_append, List.nil_append, Option.toList_some, Option.toList_none, cz, ci2, true_and, and_true, and_self, true_or, or_true, nI_1, Nat.reduceAdd, Nat.reduceLT]
        refine ⟨fun _ => h5, fun hb => ?_⟩
        refine ev_seg rfl ?_
        simp only [TE, sxs, sx, ldI, ldA, stI, stA, inc, gtF, ptF, ldX, stX, ldR, ldL, stL, dp1, dp2, Tm, kS0, kS1, kS2, kS3, kS4, kS5, kS6, kS7, kS8, kS9, kS10, kS11, kS12, kS13, kS14, kS15, kS16, kS17, kS18, kS19, kS20, kS21, kS22, kS23, kS24, kS25, kS26, kS27, kS28, kS30, kS31, kS32, kS33, kS34, kS35, kS36, kS37, kS38, kS39, kS40, kS41, kS42, kS43, kS51, kS52, kS53, List.getElem?_cons_zero, List.getElem?_cons_succ, List.set_cons_zero, List.set_cons_succ, List.length_cons, List.length_nil, List.drop_succ_cons, List.drop_zero, List.cons_append, List.nil_append, Option.toList_some, Option.toList_none, cz, ci2, true_and, and_true, and_self, true_or, or_true, nI_1, Nat.reduceAdd, Nat.reduceLT]
        refine ⟨fun _ => h5, fun _ => ?_⟩
        refine ev_seg rfl ?_
        simp only [TE, sxs, sx, ldI, ldA, stI, stA, inc, gtF, ptF, ldX, stX, ldR, ldL, stL, dp1, dp2, Tm, kS0, kS1, kS2, kS3, kS4, kS5, kS6, kS7, kS8, kS9, kS10, kS11, kS12, kS13, kS14, kS15, kS16, kS17, kS18, kS19, kS20, kS21, kS22, kS23, kS24, kS25, kS26, kS27, kS28, kS30, kS31, kS32, kS33, kS34, kS35, kS36, kS37, kS38, kS39, kS40, kS41, kS42, kS43, kS51, kS52, kS53, List.getElem?_cons_zero, List.getElem?_cons_succ, List.set_cons_zero, List.set_cons_succ, List.length_cons, List.length_nil, List.drop_succ_cons, List.drop_zero, List.cons_append, List.nil_append, Option.toList_some, Option.toList_none, cz, ci2, true_and, and_true, and_self, true_or, or_true, nI_1, Nat.reduceAdd, Nat.reduceLT]
        refine cv3 rfl rfl (by first | exact rfl | exact trivial) (s_hasResult hv1 hv2) ?_
        have hres : ¬ X.1 4 g (nI l) (nI u) = -1 := fun w => hin (by
          unfold lfP
          rw [Bool.and_eq_true, decide_eq_true_eq]
          exact ⟨bI_xor.mp (Classical.not_not.mp hb), w⟩)
        rw [bI_t (p := ¬ X.1 4 g (nI l) (nI u) = -1) hres]
        refine ev_seg rfl ?_
        simp only [TE, sxs, sx, ldI, ldA, stI, stA, inc, gtF, ptF, ldX, stX, ldR, ldL, stL, dp1, dp2, Tm, kS0, kS1, kS2, kS3, kS4, kS5, kS6, kS7, kS8, kS9, kS10, kS11, kS12, kS13, kS14, kS15, kS16, kS17, kS18, kS19, kS20, kS21, kS22, kS23, kS24, kS25, kS26, kS27, kS28, kS30, kS31, kS32, kS33, kS34, kS35, kS36, kS37, kS38, kS39, kS40, kS41, kS42, kS43, kS51, kS52, kS53, List.getElem?_cons_zero, List.getElem?_cons_succ, List.set_cons_zero, List.set_cons_succ, List.length_cons, List.length_nil, List.drop_succ_cons, List.drop_zero, List.cons_append, List.nil_append, Option.toList_some, Option.toList_none, cz, ci2, true_and, and_true, and_self, true_or, or_true, nI_1, Nat.reduceAdd, Nat.reduceLT]
        refine ⟨fun _ => h5, fun h => absurd (by decide) h⟩
theorem s_add26 {n : Nat} {seat : Int32} {own : Bool} {L : List (Nat × Nat)} (hN : X.1 2 0 g 5 = nI n) (hn5 : n ≤ 5) (hL : Lst26 X L) (hlen : L.length + ((allQ n 0 n).filter (lfP (scC X g) seat own)).length ≤ 10) :
    ∃ (Z : XT) (L' : List (Nat × Nat)), Ev sc (d + 1) 25 0 (ent 25 [vR 26 0 0, vR 2 0 g, vI seat, vI (bI (own = true)), vI (nI L.length)]) [] X (.inl (some (.inl (nI L'.length)))) Z 0 ∧ Fr [27, 28] X Z ∧ Lst26 Z L' ∧ L' = L ++ (allQ n 0 n).filter (lfP (scC X g) seat own) := by
  have loop : ∀ (q l : Nat) (X1 : XT) (L1 : List (Nat × Nat)) (z8 z9 : AV), l + q = n → Fr [27, 28] X X1 → Lst26 X1 L1 → L1.length + ((allQ n l q).filter (lfP (scC X g) seat own)).length ≤ 10 →
      ∃ (Z : XT) (L' : List (Nat × Nat)), Ev sc (d + 1) 25 2 [vR 26 0 0, vR 2 0 g, vI seat, vI (bI (own = true)), vI (nI L.length), vI (nI L1.length), vI (nI n), vI (nI l), z8, z9] [] X1 (.inl (some (.inl (nI L'.length)))) Z 0 ∧ Fr [27, 28] X Z ∧ Lst26 Z L' ∧ L' = L1 ++ (allQ n l q).filter (lfP (scC X g) seat own) := by
    intro q
    induction q with
    | zero =>
      intro l X1 L1 z8 z9 hq hf hL1 hlen1
      refine ⟨X1, L1, ?_, hf, hL1, by simp [allQ]⟩
      refine ev_seg rfl ?_
      simp only [TE, sxs, sx, ldI, ldA, stI, stA, inc, gtF, ptF, ldX, stX, ldR, ldL, stL, dp1, dp2, Tm, kS0, kS1, kS2, kS3, kS4, kS5, kS6, kS7, kS8, kS9, kS10, kS11, kS12, kS13, kS14, kS15, kS16, kS17, kS18, kS19, kS20, kS21, kS22, kS23, kS24, kS25, kS26, kS27, kS28, kS30, kS31, kS32, kS33, kS34, kS35, kS36, kS37, kS38, kS39, kS40, kS41, kS42, kS43, kS51, kS52, kS53, List.getElem?_cons_zero, List.getElem?_cons_succ, List.set_cons_zero, List.set_cons_succ, List.length_cons, List.length_nil, List.drop_succ_cons, List.drop_zero, List.cons_append, List.nil_append, Option.toList_some, Option.toList_none, cz, ci2, true_and, and_true, and_self, true_or, or_true, nI_1, Nat.reduceAdd, Nat.reduceLT]
      refine ⟨fun _ => ?_, fun h => absurd (nleI (by omega) (by omega)) h⟩
      refine ev_seg rfl ?_
      simp only [TE, sxs, sx, ldI, ldA, stI, stA, inc, gtF, ptF, ldX, stX, ldR, ldL, stL, dp1, dp2, Tm, kS0, kS1, kS2, kS3, kS4, kS5, kS6, kS7, kS8, kS9, kS10, kS11, kS12, kS13, kS14, kS15, kS16, kS17, kS18, kS19, kS20, kS21, kS22, kS23, kS24, kS25, kS26, kS27, kS28, kS30, kS31, kS32, kS33, kS34, kS35, kS36, kS37, kS38, kS39, kS40, kS41, kS42, kS43, kS51, kS52, kS53, List.getElem?_cons_zero, List.getElem?_cons_succ, List.set_cons_zero, List.set_cons_succ, List.length_cons, List.length_nil, List.drop_succ_cons, List.drop_zero, List.cons_append, List.nil_append, Option.toList_some, Option.toList_none, cz, ci2, true_and, and_true, and_self, true_or, or_true, nI_1, Nat.reduceAdd, Nat.reduceLT]
    | succ q ih =>
      intro l X1 L1 z8 z9 hq hf hL1 hlen1
      rw [allQ, List.filter_append, List.length_append] at hlen1
      have e1 := scC_fr (g := g) hf (by decide)
      obtain ⟨X', L', y8, y9, a1, a2, a3, a4⟩ := add_row26 (sc := sc) (d := d) (g := g) (seat := seat) (cb := nI L.length) (own := own) hn5 (l := l) (by omega) (n - (l + 1)) (l + 1) X1 L1 z9 (by omega) hL1 (by rw [e1]; omega)
      rw [e1] at a3
      obtain ⟨Z, L2, b1, b2, b3, b4⟩ := ih (l + 1) X' L' y8 y9 (by omega) (hf.tr a1) a2 (by rw [a3, List.length_append]; omega)
      refine ⟨Z, L2, ?_, b2, b3, ?_⟩
      · refine ev_seg rfl ?_
        simp only [TE, sxs, sx, ldI, ldA, stI, stA, inc, gtF, ptF, ldX, stX, ldR, ldL, stL, dp1, dp2, Tm, kS0, kS1, kS2, kS3, kS4, kS5, kS6, kS7, kS8, kS9, kS10, kS11, kS12, kS13, kS14, kS15, kS16, kS17, kS18, kS19, kS20, kS21, kS22, kS23, kS24, kS25, kS26, kS27, kS28, kS30, kS31, kS32, kS33, kS34, kS35, kS36, kS37, kS38, kS39, kS40, kS41, kS42, kS43, kS51, kS52, kS53, List.getElem?_cons_zero, List.getElem?_cons_succ, List.set_cons_zero, List.set_cons_succ, List.length_cons, List.length_nil, List.drop_succ_cons, List.drop_zero, List.cons_append, List.nil_append, Option.toList_some, Option.toList_none, cz, ci2, true_and, and_true, and_self, true_or, or_true, nI_1, Nat.reduceAdd, Nat.reduceLT]
        refine ⟨fun h => absurd h (nle (by omega) (by omega)), fun _ => ?_⟩
        refine ev_seg rfl ?_
        simp only [TE, sxs, sx, ldI, ldA, stI, stA, inc, gtF, ptF, ldX, stX, ldR, ldL, stL, dp1, dp2, Tm, kS0, kS1, kS2, kS3, kS4, kS5, kS6, kS7, kS8, kS9, kS10, kS11, kS12, kS13, kS14, kS15, kS16, kS17, kS18, kS19, kS20, kS21, kS22, kS23, kS24, kS25, kS26, kS27, kS28, kS30, kS31, kS32, kS33, kS34, kS35, kS36, kS37, kS38, kS39, kS40, kS41, kS42, kS43, kS51, kS52, kS53, List.getElem?_cons_zero, List.getElem?_cons_succ, List.set_cons_zero, List.set_cons_succ, List.length_cons, List.length_nil, List.drop_succ_cons, List.drop_zero, List.cons_append, List.nil_append, Option.toList_some, Option.toList_none, cz, ci2, true_and, and_true, and_self, true_or, or_true, nI_1, Nat.reduceAdd, Nat.reduceLT]
        refine a4 _ _ _ ?_
        refine ev_seg rfl ?_
        simp only [TE, sxs, sx, ldI, ldA, stI, stA, inc, gtF, ptF, ldX, stX, ldR, ldL, stL, dp1, dp2, Tm, kS0, kS1, kS2, kS3, kS4, kS5, kS6, kS7, kS8, kS9, kS10, kS11, kS12, kS13, kS14, kS15, kS16, kS17, kS18, kS19, kS20, kS21, kS22, kS23, kS24, kS25, kS26, kS27, kS28, kS30, kS31, kS32, kS33, kS34, kS35, kS36, kS37, kS38, kS39, kS40, kS41, kS42, kS43, kS51, kS52, kS53, List.getElem?_cons_zero, List.getElem?_cons_succ, List.set_cons_zero, List.set_cons_succ, List.length_cons, List.length_nil, List.drop_succ_cons, List.drop_zero, List.cons_append, List.nil_append, Option.toList_some, Option.toList_none, cz, ci2, true_and, and_true, and_self, true_or, or_true, nI_1, Nat.reduceAdd, Nat.reduceLT]
        exact b1
      · rw [b4, a3, allQ, List.filter_append, List.append_assoc]
  obtain ⟨Z, L', b1, b2, b3, b4⟩ := loop n 0 X L av0 av0 (by omega) (Fr.rf _ _) hL hlen
  refine ⟨Z, L', ?_, b2, b3, b4⟩
  rw [en25]
  refine ev_seg rfl ?_
  simp only [TE, sxs, sx, ldI, ldA, stI, stA, inc, gtF, ptF, ldX, stX, ldR, ldL, stL, dp1, dp2, Tm, kS0, kS1, kS2, kS3, kS4, kS5, kS6, kS7, kS8, kS9, kS10, kS11, kS12, kS13, kS14, kS15, kS16, kS17, kS18, kS19, kS20, kS21, kS22, kS23, kS24, kS25, kS26, kS27, kS28, kS30, kS31, kS32, kS33, kS34, kS35, kS36, kS37, kS38, kS39, kS40, kS41, kS42, kS43, kS51, kS52, kS53, List.getElem?_cons_zero, List.getElem?_cons_succ, List.set_cons_zero, List.set_cons_succ, List.length_cons, List.length_nil, List.drop_succ_cons, List.drop_zero, List.cons_append, List.nil_append, Option.toList_some, Option.toList_none, cz, ci2, true_and, and_true, and_self, true_or, or_true, nI_1, Nat.reduceAdd, Nat.reduceLT]
  refine cv1 rfl rfl (by first | exact rfl | exact trivial) (s_size) ?_
  rw [hN]
  refine ev_seg rfl ?_
  simp only [TE, sxs, sx, ldI, ldA, stI, stA, inc, gtF, ptF, ldX, stX, ldR, ldL, stL, dp1, dp2, Tm, kS0, kS1, kS2, kS3, kS4, kS5, kS6, kS7, kS8, kS9, kS10, kS11, kS12, kS13, kS14, kS15, kS16, kS17, kS18, kS19, kS20, kS21, kS22, kS23, kS24, kS25, kS26, kS27, kS28, kS30, kS31, kS32, kS33, kS34, kS35, kS36, kS37, kS38, kS39, kS40, kS41, kS42, kS43, kS51, kS52, kS53, List.getElem?_cons_zero, List.getElem?_cons_succ, List.set_cons_zero, List.set_cons_succ, List.length_cons, List.length_nil, List.drop_succ_cons, List.drop_zero, List.cons_append, List.nil_append, Option.toList_some, Option.toList_none, cz, ci2, true_and, and_true, and_self, true_or, or_true, nI_1, Nat.reduceAdd, Nat.reduceLT]
  exact b1
/-- the matches, those of one team behind the others -/
theorem s_listOwnLast26 {n : Nat} {seat : Int32} (hN : X.1 2 0 g 5 = nI n) (hn5 : n ≤ 5) :
    ∃ (Z : XT) (L : List (Nat × Nat)), Ev sc (d + 2) 24 0 (ent 24 [vR 26 0 0, vR 2 0 g, vI seat]) [] X (.inl (some (.inl (nI L.length)))) Z 0 ∧ Fr [27, 28] X Z ∧ Lst26 Z L ∧ L = lfO (scC X g) n seat := by
  have hlen := lfO_len (S := scC X g) (seat := seat) hn5
  unfold lfO at hlen
  rw [List.length_append] at hlen
  obtain ⟨X1, L1, a1, a2, a3, a4⟩ := s_add26 (sc := sc) (d := d) (g := g) (X := X) (seat := seat) (own := false) (L := []) hN hn5 (fun i hi => absurd hi (by simp)) (by rw [List.length_nil]; omega)
  rw [List.nil_append] at a4
  have e1 := scC_fr (g := g) a2 (by decide)
  obtain ⟨X2, L2, b1, b2, b3, b4⟩ := s_add26 (sc := sc) (d := d) (g := g) (X := X1) (seat := seat) (own := true) (L := L1) (by rw [a2.at 2 (by decide)]; exact hN) hn5 a3 (by rw [a4, e1]; omega)
  rw [e1, a4] at b4
  refine ⟨X2, L2, ?_, a2.tr b2, b3, b4⟩
  rw [en24]
  refine ev_seg rfl ?_
  simp only [TE, sxs, sx, ldI, ldA, stI, stA, inc, gtF, ptF, ldX, stX, ldR, ldL, stL, dp1, dp2, Tm, kS0, kS1, kS2, kS3, kS4, kS5, kS6, kS7, kS8, kS9, kS10, kS11, kS12, kS13, kS14, kS15, kS16, kS17, kS18, kS19, kS20, kS21, kS22, kS23, kS24, kS25, kS26, kS27, kS28, kS30, kS31, kS32, kS33, kS34, kS35, kS36, kS37, kS38, kS39, kS40, kS41, kS42, kS43, kS51, kS52, kS53, List.getElem?_cons_zero, List.getElem?_cons_succ, List.set_cons_zero, List.set_cons_succ, List.length_cons, List.length_nil, List.drop_succ_cons, List.drop_zero, List.cons_append, List.nil_append, Option.toList_some, Option.toList_none, cz, ci2, true_and, and_true, and_self, true_or, or_true, nI_1, Nat.reduceAdd, Nat.reduceLT]
  refine cv5 rfl rfl (by first | exact rfl | exact trivial) (a1) ?_
  refine ev_seg rfl ?_
  simp only [TE, sxs, sx, ldI, ldA, stI, stA, inc, gtF, ptF, ldX, stX, ldR, ldL, stL, dp1, dp2, Tm, kS0, kS1, kS2, kS3, kS4, kS5, kS6, kS7, kS8, kS9, kS10, kS11, kS12, kS13, kS14, kS15, kS16, kS17, kS18, kS19, kS20, kS21, kS22, kS23, kS24, kS25, kS26, kS27, kS28, kS30, kS31, kS32, kS33, kS34, kS35, kS36, kS37, kS38, kS39, kS40, kS41, kS42, kS43, kS51, kS52, kS53, List.getElem?_cons_zero, List.getElem?_cons_succ, List.set_cons_zero, List.set_cons_succ, List.length_cons, List.length_nil, List.drop_succ_cons, List.drop_zero, List.cons_append, List.nil_append, Option.toList_some, Option.toList_none, cz, ci2, true_and, and_true, and_self, true_or, or_true, nI_1, Nat.reduceAdd, Nat.reduceLT]
  refine cv5 rfl rfl (by first | exact rfl | exact trivial) (b1) ?_
  refine ev_seg rfl ?_
  simp only [TE, sxs, sx, ldI, ldA, stI, stA, inc, gtF, ptF, ldX, stX, ldR, ldL, stL, dp1, dp2, Tm, kS0, kS1, kS2, kS3, kS4, kS5, kS6, kS7, kS8, kS9, kS10, kS11, kS12, kS13, kS14, kS15, kS16, kS17, kS18, kS19, kS20, kS21, kS22, kS23, kS24, kS25, kS26, kS27, kS28, kS30, kS31, kS32, kS33, kS34, kS35, kS36, kS37, kS38, kS39, kS40, kS41, kS42, kS43, kS51, kS52, kS53, List.getElem?_cons_zero, List.getElem?_cons_succ, List.set_cons_zero, List.set_cons_succ, List.length_cons, List.length_nil, List.drop_succ_cons, List.drop_zero, List.cons_append, List.nil_append, Option.toList_some, Option.toList_none, cz, ci2, true_and, and_true, and_self, true_or, or_true, nI_1, Nat.reduceAdd, Nat.reduceLT]
/-- the matches by their numbers -/
theorem s_list26 {n : Nat} (hN : X.1 2 0 g 5 = nI n) (hn5 : n ≤ 5) :
    ∃ (Z : XT) (L : List (Nat × Nat)), Ev sc (d + 3) 23 0 (ent 23 [vR 26 0 0, vR 2 0 g]) [] X (.inl (some (.inl (nI L.length)))) Z 0 ∧ Fr [27, 28] X Z ∧ Lst26 Z L ∧ L = lfA (scC X g) n := by
  obtain ⟨Z, L, a1, a2, a3, a4⟩ := s_listOwnLast26 (sc := sc) (d := d) (seat := -1) hN hn5
  refine ⟨Z, L, ?_, a2, a3, a4.trans (lfO_all hn5)⟩
  rw [en23]
  refine ev_seg rfl ?_
  simp only [TE, sxs, sx, ldI, ldA, stI, stA, inc, gtF, ptF, ldX, stX, ldR, ldL, stL, dp1, dp2, Tm, kS0, kS1, kS2, kS3, kS4, kS5, kS6, kS7, kS8, kS9, kS10, kS11, kS12, kS13, kS14, kS15, kS16, kS17, kS18, kS19, kS20, kS21, kS22, kS23, kS24, kS25, kS26, kS27, kS28, kS30, kS31, kS32, kS33, kS34, kS35, kS36, kS37, kS38, kS39, kS40, kS41, kS42, kS43, kS51, kS52, kS53, List.getElem?_cons_zero, List.getElem?_cons_succ, List.set_cons_zero, List.set_cons_succ, List.length_cons, List.length_nil, List.drop_succ_cons, List.drop_zero, List.cons_append, List.nil_append, Option.toList_some, Option.toList_none, cz, ci2, true_and, and_true, and_self, true_or, or_true, nI_1, Nat.reduceAdd, Nat.reduceLT]
  refine cv3 rfl rfl (by first | exact rfl | exact trivial) (a1) ?_
  refine ev_seg rfl ?_
  simp only [TE, sxs, sx, ldI, ldA, stI, stA, inc, gtF, ptF, ldX, stX, ldR, ldL, stL, dp1, dp2, Tm, kS0, kS1, kS2, kS3, kS4, kS5, kS6, kS7, kS8, kS9, kS10, kS11, kS12, kS13, kS14, kS15, kS16, kS17, kS18, kS19, kS20, kS21, kS22, kS23, kS24, kS25, kS26, kS27, kS28, kS30, kS31, kS32, kS33, kS34, kS35, kS36, kS37, kS38, kS39, kS40, kS41, kS42, kS43, kS51, kS52, kS53, List.getElem?_cons_zero, List.getElem?_cons_succ, List.set_cons_zero, List.set_cons_succ, List.length_cons, List.length_nil, List.drop_succ_cons, List.drop_zero, List.cons_append, List.nil_append, Option.toList_some, Option.toList_none, cz, ci2, true_and, and_true, and_self, true_or, or_true, nI_1, Nat.reduceAdd, Nat.reduceLT]
end Lft26
