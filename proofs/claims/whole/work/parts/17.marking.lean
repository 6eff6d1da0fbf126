/-! sets of seats, marks -/
section Mkg
variable {sc : SC} {d : Nat} {X : XT} {g : Int32}
theorem m_or : ∀ m, m < 32 → ∀ v, v < 5 → nI m ||| ((1 : Int32) <<< (nI v &&& 31)) = nI (m ||| 2 ^ v) ∧ m ||| 2 ^ v < 32 := by decide +kernel
theorem m_bit : ∀ m, m < 32 → ∀ j, j < 5 → (bit (nI m) (nI j) ↔ m.testBit j = true) := by decide +kernel
theorem m_evy : ∀ n, n < 6 → evy n = nI (2 ^ n - 1) ∧ 2 ^ n - 1 < 32 ∧ ∀ j, j < 5 → (2 ^ n - 1).testBit j = decide (j < n) := by decide +kernel
def mkM (σ : Nat → Nat) (s : Nat) : Nat → Nat
  | 0 => 0
  | q + 1 => mkM σ s q ||| 2 ^ σ (s + q)
theorem mkM_lt {σ : Nat → Nat} {s : Nat} : ∀ {q : Nat}, (∀ i, s ≤ i → i < s + q → σ i < 5) → mkM σ s q < 32
  | 0, _ => by unfold mkM; decide
  | q + 1, h => (m_or _ (mkM_lt (fun i h1 h2 => h i h1 (by omega))) _ (h (s + q) (by omega) (by omega))).2
theorem mkM_bit {σ : Nat → Nat} {s : Nat} : ∀ {q j : Nat}, (mkM σ s q).testBit j = true ↔ ∃ i, s ≤ i ∧ i < s + q ∧ σ i = j
  | 0, j => by
    unfold mkM
    simp
    intro i h1 h2
    omega
  | q + 1, j => by
    unfold mkM
    rw [Nat.testBit_or, Bool.or_eq_true, mkM_bit, Nat.testBit_two_pow, decide_eq_true_eq]
    constructor
    · rintro (⟨i, h1, h2, h3⟩ | h)
      · exact ⟨i, h1, by omega, h3⟩
      · exact ⟨s + q, by omega, by omega, h⟩
    · rintro ⟨i, h1, h2, h3⟩
      by_cases hi : i = s + q
      · subst hi; exact Or.inr h3
      · exact Or.inl ⟨i, h1, by omega, h3⟩
theorem s_setOf {s e n : Nat} {σ : Nat → Nat} (hn : n ≤ 5) (hse : s ≤ e) (he : e ≤ n) (hO : OrdH X n σ) : Ev sc d 47 0 (ent 47 [vR 8 0 0, vI (nI s), vI (nI e)]) [] X (.inl (some (.inl (nI (mkM σ s (e - s)))))) X 0 := by
  rw [en47]
  refine ev_seg rfl ?_
  simp only [TE, sxs, sx, ldI, ldA, stI, stA, inc, gtF, ptF, ldX, stX, ldR, ldL, stL, dp1, dp2, Tm, kS0, kS1, kS2, kS3, kS4, kS5, kS6, kS7, kS8, kS9, kS10, kS11, kS12, kS13, kS14, kS15, kS16, kS17, kS18, kS19, kS20, kS21, kS22, kS23, kS24, kS25, kS26, kS27, kS28, kS30, kS31, kS32, kS33, kS34, kS35, kS36, kS37, kS38, kS39, kS40, kS41, kS42, kS43, kS51, kS52, kS53, List.getElem?_cons_zero, List.getElem?_cons_succ, List.set_cons_zero, List.set_cons_succ, List.length_cons, List.length_nil, List.drop_succ_cons, List.drop_zero, List.cons_append, List.nil_append, Option.toList_some, Option.toList_none, cz, ci2, true_and, and_true, and_self, true_or, or_true, nI_1, Nat.reduceAdd, Nat.reduceLT]
  have loop : ∀ p, p ≤ e → s ≤ p → Ev sc d 47 1 [vR 8 0 0, vI (nI s), vI (nI e), vI (nI (mkM σ s (p - s))), vI (nI p)] [] X (.inl (some (.inl (nI (mkM σ s (e - s)))))) X 0 := by
    apply loop_up
    · intro _
      refine ev_seg rfl ?_
      simp only [TE, sxs, sx, ldI, ldA, stI, stA, inc, gtF, ptF, ldX, stX, ldR, ldL, stL, dp1, dp2, Tm, kS0, kS1, kS2, kS3, kS4, kS5, kS6, kS7, kS8, kS9, kS10, kS11, kS12, kS13, kS14, kS15, kS16, kS17, kS18, kS19, kS20, kS21, kS22, kS23, kS24, kS25, kS26, kS27, kS28, kS30, kS31, kS32, kS33, kS34, kS35, kS36, kS37, kS38, kS39, kS40, kS41, kS42, kS43, kS51, kS52, kS53, List.getElem?_cons_zero, List.getElem?_cons_succ, List.set_cons_zero, List.set_cons_succ, List.length_cons, List.length_nil, List.drop_succ_cons, List.drop_zero, List.cons_append, List.nil_append, Option.toList_some, Option.toList_none, cz, ci2, true_and, and_true, and_self, true_or, or_true, nI_1, Nat.reduceAdd, Nat.reduceLT]
      refine ⟨fun _ => ?_, fun h => absurd (nleI (Nat.le_refl _) (by omega)) h⟩
      refine ev_seg rfl ?_
      simp only [TE, sxs, sx, ldI, ldA, stI, stA, inc, gtF, ptF, ldX, stX, ldR, ldL, stL, dp1, dp2, Tm, kS0, kS1, kS2, kS3, kS4, kS5, kS6, kS7, kS8, kS9, kS10, kS11, kS12, kS13, kS14, kS15, kS16, kS17, kS18, kS19, kS20, kS21, kS22, kS23, kS24, kS25, kS26, kS27, kS28, kS30, kS31, kS32, kS33, kS34, kS35, kS36, kS37, kS38, kS39, kS40, kS41, kS42, kS43, kS51, kS52, kS53, List.getElem?_cons_zero, List.getElem?_cons_succ, List.set_cons_zero, List.set_cons_succ, List.length_cons, List.length_nil, List.drop_succ_cons, List.drop_zero, List.cons_append, List.nil_append, Option.toList_some, Option.toList_none, cz, ci2, true_and, and_true, and_self, true_or, or_true, nI_1, Nat.reduceAdd, Nat.reduceLT]
    · intro p hp ih hsp
      obtain ⟨o1, o2⟩ := hO p (by omega)
      have v1 : vp_in (nI p) 5 := vpn (by omega) (by decide)
      have hm : mkM σ s (p - s) < 32 := mkM_lt (fun i h1 h2 => by have := (hO i (by omega)).2; omega)
      have e1 : mkM σ s (p + 1 - s) = mkM σ s (p - s) ||| 2 ^ σ p := by
        rw [show p + 1 - s = p - s + 1 by omega, mkM, show s + (p - s) = p by omega]
      have ih := ih (by omega)
      rw [e1, ← (m_or _ hm _ (by omega : σ p < 5)).1] at ih
      refine ev_seg rfl ?_
      simp only [TE, sxs, sx, ldI, ldA, stI, stA, inc, gtF, ptF, ldX, stX, ldR, ldL, stL, dp1, dp2, Tm, kS0, kS1, kS2, kS3, kS4, kS5, kS6, kS7, kS8, kS9, kS10, kS11, kS12, kS13, kS14, kS15, kS16, kS17, kS18, kS19, kS20, kS21, kS22, kS23, kS24, kS25, kS26, kS27, kS28, kS30, kS31, kS32, kS33, kS34, kS35, kS36, kS37, kS38, kS39, kS40, kS41, kS42, kS43, kS51, kS52, kS53, List.getElem?_cons_zero, List.getElem?_cons_succ, List.set_cons_zero, List.set_cons_succ, List.length_cons, List.length_nil, List.drop_succ_cons, List.drop_zero, List.cons_append, List.nil_append, Option.toList_some, Option.toList_none, cz, ci2, true_and, and_true, and_self, true_or, or_true, nI_1, Nat.reduceAdd, Nat.reduceLT]
      refine ⟨fun h => absurd h (nle hp (by omega)), fun _ => ?_⟩
      refine ev_seg rfl ?_
      simp only [TE, sxs, sx, ldI, ldA, stI, stA, inc, gtF, ptF, ldX, stX, ldR, ldL, stL, dp1, dp2, Tm, kS0, kS1, kS2, kS3, kS4, kS5, kS6, kS7, kS8, kS9, kS10, kS11, kS12, kS13, kS14, kS15, kS16, kS17, kS18, kS19, kS20, kS21, kS22, kS23, kS24, kS25, kS26, kS27, kS28, kS30, kS31, kS32, kS33, kS34, kS35, kS36, kS37, kS38, kS39, kS40, kS41, kS42, kS43, kS51, kS52, kS53, List.getElem?_cons_zero, List.getElem?_cons_succ, List.set_cons_zero, List.set_cons_succ, List.length_cons, List.length_nil, List.drop_succ_cons, List.drop_zero, List.cons_append, List.nil_append, Option.toList_some, Option.toList_none, cz, ci2, true_and, and_true, and_self, true_or, or_true, nI_1, Nat.reduceAdd, Nat.reduceLT, o1]
      exact ⟨(by first | assumption | (and_intros <;> first | assumption | trivial | decide)), ih⟩
  have h0 := loop s hse (Nat.le_refl _)
  rw [Nat.sub_self] at h0
  exact h0
/-- the results of a group, by seats -/
def scC (X : XT) (g : Int32) (a b : Nat) : Int32 := X.1 4 g (nI a) (nI b)
theorem rowSum_rs {M n a : Nat} {f : Int32 → Int32 → Int32} (hM : M < 32) (hn : n ≤ 5) : rowSum X g (nI a) (nI M) f n = rsC (scC X g) n (fun j => M.testBit j) f a := by
  apply sumN_congr
  intro j hj
  have h := m_bit M hM j (by omega)
  by_cases h1 : bit (nI M) (nI j) ∧ ¬ X.1 4 g (nI a) (nI j) = -1
  · rw [if_pos h1]
    exact (if_pos (show M.testBit j = true ∧ ¬ scC X g a j = -1 from ⟨h.mp h1.1, h1.2⟩)).symm
  · rw [if_neg h1]
    exact (if_neg (show ¬ (M.testBit j = true ∧ ¬ scC X g a j = -1) from fun q => h1 ⟨h.mpr q.1, q.2⟩)).symm
theorem rowSum_all {n a : Nat} {f : Int32 → Int32 → Int32} (hn : n ≤ 5) : rowSum X g (nI a) (evy n) f n = rsC (scC X g) n (fun _ => true) f a := by
  obtain ⟨e1, e2, e3⟩ := m_evy n (by omega)
  rw [e1, rowSum_rs e2 hn]
  exact rsC_congr (fun j hj => by rw [e3 j (by omega)]; simp [hj])
theorem rowSum_fr {K : List Nat} {X' : XT} {a set : Int32} {f : Int32 → Int32 → Int32} {n : Nat} (h : Fr K X X') (hK : 4 ∉ K) : rowSum X' g a set f n = rowSum X g a set f n := by
  unfold rowSum
  rw [h.2 4 hK]
theorem scC_fr {K : List Nat} {X' : XT} (h : Fr K X X') (hK : 4 ∉ K) : scC X' g = scC X g := by
  unfold scC
  rw [h.2 4 hK]
/-- the marks when all are alike -/
def K4 (X : XT) (g : Int32) (n a c : Nat) : Int32 := if c = 0 then rsC (scC X g) n (fun _ => true) dF a else if c = 1 then rsC (scC X g) n (fun _ => true) gF9 a else if c = 2 then -X.1 6 0 g (nI a) else lotMk X g (nI a)
theorem K4_fr {K : List Nat} {X' : XT} {n : Nat} (h : Fr K X X') (h4 : 4 ∉ K) (h6 : 6 ∉ K) (h7 : 7 ∉ K) (h2 : 2 ∉ K) : K4 X' g n = K4 X g n := by
  funext a c
  unfold K4 lotMk
  rw [scC_fr h h4, h.2 6 h6, h.2 7 h7, h.2 2 h2]
theorem mrow_xs {a z c : Nat} {v : Int32} (hz : z < 5) (ha : a < 5) (hc : c < 4) (q : Nat) (hq : q < 4) : mrow (xs X.1 11 0 (nI a) (nI c) v, X.2) z q = if z = a ∧ q = c then v else mrow X z q := by
  show (if 11 = 11 ∧ (0 : Int32) = 0 ∧ nI z = nI a ∧ nI q = nI c then v else X.1 11 0 (nI z) (nI q)) = _
  have e1 : nI z = nI a ↔ z = a := ⟨fun e => nI_inj (by omega) (by omega) e, fun e => by rw [e]⟩
  have e2 : nI q = nI c ↔ q = c := ⟨fun e => nI_inj (by omega) (by omega) e, fun e => by rw [e]⟩
  simp only [e1, e2, true_and]
  rfl
theorem mrow_xn {a z : Nat} {c v : Int32} (hz : z < 5) (ha : a < 5) (h : z ≠ a) : mrow (xs X.1 11 0 (nI a) c v, X.2) z = mrow X z := by
  funext q
  show (if 11 = 11 ∧ (0 : Int32) = 0 ∧ nI z = nI a ∧ nI q = c then v else X.1 11 0 (nI z) (nI q)) = _
  rw [if_neg (fun w => h (nI_inj (by omega) (by omega) w.2.2.1))]
  rfl
theorem s_markTied {s e n : Nat} {σ : Nat → Nat} (hN : X.1 2 0 g 5 = nI n) (hn : n ≤ 5) (hse : s ≤ e) (he : e ≤ n) (hinj : ∀ i j, i < n → j < n → σ i = σ j → i = j) (hO : OrdH X n σ) :
    ∃ Z, Ev sc (d + 2) 49 0 (ent 49 [vR 8 0 0, vR 2 0 g, vI (nI s), vI (nI e)]) [] X (.inl none) Z 0 ∧ Fr [11] X Z ∧ (∀ i, s ≤ i → i < e → ∀ c, c < 3 → mrow Z (σ i) c = k3 (scC X g) n (fun j => (mkM σ s (e - s)).testBit j) (σ i) c) ∧ ∀ z, z < 5 → (∀ i, s ≤ i → i < e → σ i ≠ z) → mrow Z z = mrow X z := by
  generalize hM : mkM σ s (e - s) = M
  have hM32 : M < 32 := by rw [← hM]; exact mkM_lt (fun i h1 h2 => by have := (hO i (by omega)).2; omega)
  have loop : ∀ p, p ≤ e → s ≤ p → ∀ (X1 : XT) (z : AV), Fr [11] X X1 → (∀ i, s ≤ i → i < p → ∀ c, c < 3 → mrow X1 (σ i) c = k3 (scC X g) n (fun j => M.testBit j) (σ i) c) → (∀ z, z < 5 → (∀ i, s ≤ i → i < p → σ i ≠ z) → mrow X1 z = mrow X z) →
      ∃ Z, Ev sc (d + 2) 49 2 [vR 8 0 0, vR 2 0 g, vI (nI s), vI (nI e), vI (nI M), vI (nI p), z] [] X1 (.inl none) Z 0 ∧ Fr [11] X Z ∧ (∀ i, s ≤ i → i < e → ∀ c, c < 3 → mrow Z (σ i) c = k3 (scC X g) n (fun j => M.testBit j) (σ i) c) ∧ ∀ z, z < 5 → (∀ i, s ≤ i → i < e → σ i ≠ z) → mrow Z z = mrow X z := by
    apply loop_up
    · intro _ X1 z hf h1 h2
      refine ⟨X1, ?_, hf, h1, h2⟩
      refine ev_seg rfl ?_
      simp only [TE, sxs, sx, ldI, ldA, stI, stA, inc, gtF, ptF, ldX, stX, ldR, ldL, stL, dp1, dp2, Tm, kS0, kS1, kS2, kS3, kS4, kS5, kS6, kS7, kS8, kS9, kS10, kS11, kS12, kS13, kS14, kS15, kS16, kS17, kS18, kS19, kS20, kS21, kS22, kS23, kS24, kS25, kS26, kS27, kS28, kS30, kS31, kS32, kS33, kS34, kS35, kS36, kS37, kS38, kS39, kS40, kS41, kS42, kS43, kS51, kS52, kS53, List.getElem?_cons_zero, List.getElem?_cons_succ, List.set_cons_zero, List.set_cons_succ, List.length_cons, List.length_nil, List.drop_succ_cons, List.drop_zero, List.cons_append, List.nil_append, Option.toList_some, Option.toList_none, cz, ci2, true_and, and_true, and_self, true_or, or_true, nI_1, Nat.reduceAdd, Nat.reduceLT]
      refine ⟨fun _ => ?_, fun h => absurd (nleI (Nat.le_refl _) (by omega)) h⟩
      refine ev_seg rfl ?_
      simp only [TE, sxs, sx, ldI, ldA, stI, stA, inc, gtF, ptF, ldX, stX, ldR, ldL, stL, dp1, dp2, Tm, kS0, kS1, kS2, kS3, kS4, kS5, kS6, kS7, kS8, kS9, kS10, kS11, kS12, kS13, kS14, kS15, kS16, kS17, kS18, kS19, kS20, kS21, kS22, kS23, kS24, kS25, kS26, kS27, kS28, kS30, kS31, kS32, kS33, kS34, kS35, kS36, kS37, kS38, kS39, kS40, kS41, kS42, kS43, kS51, kS52, kS53, List.getElem?_cons_zero, List.getElem?_cons_succ, List.set_cons_zero, List.set_cons_succ, List.length_cons, List.length_nil, List.drop_succ_cons, List.drop_zero, List.cons_append, List.nil_append, Option.toList_some, Option.toList_none, cz, ci2, true_and, and_true, and_self, true_or, or_true, nI_1, Nat.reduceAdd, Nat.reduceLT]
    · intro p hp ih hsp X1 z hf h1 h2
      obtain ⟨o1, o2⟩ := hO p (by omega)
      have v1 : vp_in (nI p) 5 := vpn (by omega) (by decide)
      have v2 : vp_in (nI (σ p)) 5 := vpn (by omega) (by decide)
      have c0 : vp_in 0 4 := vpn (j := 0) (by decide) (by decide)
      have c1 : vp_in 1 4 := vpn (j := 1) (by decide) (by decide)
      have c2 : vp_in 2 4 := vpn (j := 2) (by decide) (by decide)
      have r1 : X1.1 12 0 0 (nI p) = nI (σ p) := by rw [hf.at 12 (by decide)]; exact o1
      have rN : X1.1 2 0 g 5 = nI n := by rw [hf.at 2 (by decide)]; exact hN
      have i11 : 11 ∈ [11] := List.mem_singleton.mpr rfl
      generalize hX2 : ((xs X1.1 11 0 (nI (σ p)) 0 (rowSum X1 g (nI (σ p)) (nI M) pF n), X1.2) : XT) = X2
      have f2 : Fr [11] X1 X2 := by rw [← hX2]; exact Fr.xs _ _ _ _ _ i11
      have rN2 : X2.1 2 0 g 5 = nI n := by rw [f2.at 2 (by decide)]; exact rN
      generalize hX3 : ((xs X2.1 11 0 (nI (σ p)) 1 (rowSum X2 g (nI (σ p)) (nI M) dF n), X2.2) : XT) = X3
      have f3 : Fr [11] X2 X3 := by rw [← hX3]; exact Fr.xs _ _ _ _ _ i11
      have rN3 : X3.1 2 0 g 5 = nI n := by rw [f3.at 2 (by decide)]; exact rN2
      generalize hX4 : ((xs X3.1 11 0 (nI (σ p)) 2 (rowSum X3 g (nI (σ p)) (nI M) gF9 n), X3.2) : XT) = X4
      have f4 : Fr [11] X3 X4 := by rw [← hX4]; exact Fr.xs _ _ _ _ _ i11
      have hs : ∀ f, rowSum X g (nI (σ p)) (nI M) f n = rsC (scC X g) n (fun j => M.testBit j) f (σ p) := fun f => rowSum_rs hM32 hn
      have g1 : rowSum X1 g (nI (σ p)) (nI M) pF n = rsC (scC X g) n (fun j => M.testBit j) pF (σ p) := (rowSum_fr hf (by decide)).trans (hs _)
      have g2 : rowSum X2 g (nI (σ p)) (nI M) dF n = rsC (scC X g) n (fun j => M.testBit j) dF (σ p) := (rowSum_fr (hf.tr f2) (by decide)).trans (hs _)
      have g3 : rowSum X3 g (nI (σ p)) (nI M) gF9 n = rsC (scC X g) n (fun j => M.testBit j) gF9 (σ p) := (rowSum_fr ((hf.tr f2).tr f3) (by decide)).trans (hs _)
      have hrow : ∀ w, w < 5 → ∀ q, q < 4 → mrow X4 w q = if w = σ p ∧ q = 2 then rsC (scC X g) n (fun j => M.testBit j) gF9 (σ p) else if w = σ p ∧ q = 1 then rsC (scC X g) n (fun j => M.testBit j) dF (σ p) else if w = σ p ∧ q = 0 then rsC (scC X g) n (fun j => M.testBit j) pF (σ p) else mrow X1 w q := by
        intro w hw q hq
        rw [← hX4, g3]
        rw [show (2 : Int32) = nI 2 from rfl, mrow_xs hw (by omega) (by decide) q hq]
        rw [← hX3, g2]
        rw [show (1 : Int32) = nI 1 from rfl, mrow_xs hw (by omega) (by decide) q hq]
        rw [← hX2, g1]
        rw [show mrow (xs X1.1 11 0 (nI (σ p)) 0 (rsC (scC X g) n (fun j => M.testBit j) pF (σ p)), X1.2) w q = mrow (xs X1.1 11 0 (nI (σ p)) (nI 0) (rsC (scC X g) n (fun j => M.testBit j) pF (σ p)), X1.2) w q from rfl, mrow_xs hw (by omega) (by decide) q hq]
      have hrn : ∀ w, w < 5 → w ≠ σ p → mrow X4 w = mrow X1 w := by
        intro w hw hne
        rw [← hX4, mrow_xn hw (by omega) hne, ← hX3, mrow_xn hw (by omega) hne, ← hX2, mrow_xn hw (by omega) hne]
      obtain ⟨Z, a1, a2, a3, a4⟩ := ih (by omega) X4 (vI (nI (σ p))) (((hf.tr f2).tr f3).tr f4) (fun i b1 b2 c hc => by
        have hi5 := (hO i (by omega)).2
        by_cases hi : i = p
        · subst hi
          rw [hrow _ (by omega) c (by omega)]
          unfold k3
          rcases (show c = 0 ∨ c = 1 ∨ c = 2 by omega) with rfl | rfl | rfl <;> simp
        · rw [hrn _ (by omega) (fun w => hi (hinj i p (by omega) (by omega) w))]
          exact h1 i b1 (by omega) c hc) (fun z hz hne => by
        rw [hrn z hz (fun w => hne p hsp (by omega) w.symm)]
        exact h2 z hz (fun i b1 b2 => hne i b1 (by omega)))
      refine ⟨Z, ?_, a2, a3, a4⟩
      refine ev_seg rfl ?_
      simp only [TE, sxs, sx, ldI, ldA, stI, stA, inc, gtF, ptF, ldX, stX, ldR, ldL, stL, dp1, dp2, Tm, kS0, kS1, kS2, kS3, kS4, kS5, kS6, kS7, kS8, kS9, kS10, kS11, kS12, kS13, kS14, kS15, kS16, kS17, kS18, kS19, kS20, kS21, kS22, kS23, kS24, kS25, kS26, kS27, kS28, kS30, kS31, kS32, kS33, kS34, kS35, kS36, kS37, kS38, kS39, kS40, kS41, kS42, kS43, kS51, kS52, kS53, List.getElem?_cons_zero, List.getElem?_cons_succ, List.set_cons_zero, List.set_cons_succ, List.length_cons, List.length_nil, List.drop_succ_cons, List.drop_zero, List.cons_append, List.nil_append, Option.toList_some, Option.toList_none, cz, ci2, true_and, and_true, and_self, true_or, or_true, nI_1, Nat.reduceAdd, Nat.reduceLT]
      refine ⟨fun h => absurd h (nle hp (by omega)), fun _ => ?_⟩
      refine ev_seg rfl ?_
      simp only [TE, sxs, sx, ldI, ldA, stI, stA, inc, gtF, ptF, ldX, stX, ldR, ldL, stL, dp1, dp2, Tm, kS0, kS1, kS2, kS3, kS4, kS5, kS6, kS7, kS8, kS9, kS10, kS11, kS12, kS13, kS14, kS15, kS16, kS17, kS18, kS19, kS20, kS21, kS22, kS23, kS24, kS25, kS26, kS27, kS28, kS30, kS31, kS32, kS33, kS34, kS35, kS36, kS37, kS38, kS39, kS40, kS41, kS42, kS43, kS51, kS52, kS53, List.getElem?_cons_zero, List.getElem?_cons_succ, List.set_cons_zero, List.set_cons_succ, List.length_cons, List.length_nil, List.drop_succ_cons, List.drop_zero, List.cons_append, List.nil_append, Option.toList_some, Option.toList_none, cz, ci2, true_and, and_true, and_self, true_or, or_true, nI_1, Nat.reduceAdd, Nat.reduceLT, r1]
      refine ⟨(by first | assumption | (and_intros <;> first | assumption | trivial | decide)), cv3 rfl rfl (by first | exact rfl | exact trivial) (s_pointsFrom rN hn v2) ?_⟩
      refine ev_seg rfl ?_
      simp only [TE, sxs, sx, ldI, ldA, stI, stA, inc, gtF, ptF, ldX, stX, ldR, ldL, stL, dp1, dp2, Tm, kS0, kS1, kS2, kS3, kS4, kS5, kS6, kS7, kS8, kS9, kS10, kS11, kS12, kS13, kS14, kS15, kS16, kS17, kS18, kS19, kS20, kS21, kS22, kS23, kS24, kS25, kS26, kS27, kS28, kS30, kS31, kS32, kS33, kS34, kS35, kS36, kS37, kS38, kS39, kS40, kS41, kS42, kS43, kS51, kS52, kS53, List.getElem?_cons_zero, List.getElem?_cons_succ, List.set_cons_zero, List.set_cons_succ, List.length_cons, List.length_nil, List.drop_succ_cons, List.drop_zero, List.cons_append, List.nil_append, Option.toList_some, Option.toList_none, cz, ci2, true_and, and_true, and_self, true_or, or_true, nI_1, Nat.reduceAdd, Nat.reduceLT]
      refine cu4 rfl rfl (by first | exact rfl | exact trivial) (s_put9 v2 c0) ?_
      rw [hX2]
      refine ev_seg rfl ?_
      simp only [TE, sxs, sx, ldI, ldA, stI, stA, inc, gtF, ptF, ldX, stX, ldR, ldL, stL, dp1, dp2, Tm, kS0, kS1, kS2, kS3, kS4, kS5, kS6, kS7, kS8, kS9, kS10, kS11, kS12, kS13, kS14, kS15, kS16, kS17, kS18, kS19, kS20, kS21, kS22, kS23, kS24, kS25, kS26, kS27, kS28, kS30, kS31, kS32, kS33, kS34, kS35, kS36, kS37, kS38, kS39, kS40, kS41, kS42, kS43, kS51, kS52, kS53, List.getElem?_cons_zero, List.getElem?_cons_succ, List.set_cons_zero, List.set_cons_succ, List.length_cons, List.length_nil, List.drop_succ_cons, List.drop_zero, List.cons_append, List.nil_append, Option.toList_some, Option.toList_none, cz, ci2, true_and, and_true, and_self, true_or, or_true, nI_1, Nat.reduceAdd, Nat.reduceLT]
      refine cv3 rfl rfl (by first | exact rfl | exact trivial) (s_differenceFrom rN2 hn v2) ?_
      refine ev_seg rfl ?_
      simp only [TE, sxs, sx, ldI, ldA, stI, stA, inc, gtF, ptF, ldX, stX, ldR, ldL, stL, dp1, dp2, Tm, kS0, kS1, kS2, kS3, kS4, kS5, kS6, kS7, kS8, kS9, kS10, kS11, kS12, kS13, kS14, kS15, kS16, kS17, kS18, kS19, kS20, kS21, kS22, kS23, kS24, kS25, kS26, kS27, kS28, kS30, kS31, kS32, kS33, kS34, kS35, kS36, kS37, kS38, kS39, kS40, kS41, kS42, kS43, kS51, kS52, kS53, List.getElem?_cons_zero, List.getElem?_cons_succ, List.set_cons_zero, List.set_cons_succ, List.length_cons, List.length_nil, List.drop_succ_cons, List.drop_zero, List.cons_append, List.nil_append, Option.toList_some, Option.toList_none, cz, ci2, true_and, and_true, and_self, true_or, or_true, nI_1, Nat.reduceAdd, Nat.reduceLT]
      refine cu4 rfl rfl (by first | exact rfl | exact trivial) (s_put9 v2 c1) ?_
      rw [hX3]
      refine ev_seg rfl ?_
      simp only [TE, sxs, sx, ldI, ldA, stI, stA, inc, gtF, ptF, ldX, stX, ldR, ldL, stL, dp1, dp2, Tm, kS0, kS1, kS2, kS3, kS4, kS5, kS6, kS7, kS8, kS9, kS10, kS11, kS12, kS13, kS14, kS15, kS16, kS17, kS18, kS19, kS20, kS21, kS22, kS23, kS24, kS25, kS26, kS27, kS28, kS30, kS31, kS32, kS33, kS34, kS35, kS36, kS37, kS38, kS39, kS40, kS41, kS42, kS43, kS51, kS52, kS53, List.getElem?_cons_zero, List.getElem?_cons_succ, List.set_cons_zero, List.set_cons_succ, List.length_cons, List.length_nil, List.drop_succ_cons, List.drop_zero, List.cons_append, List.nil_append, Option.toList_some, Option.toList_none, cz, ci2, true_and, and_true, and_self, true_or, or_true, nI_1, Nat.reduceAdd, Nat.reduceLT]
      refine cv3 rfl rfl (by first | exact rfl | exact trivial) (s_goalsFrom rN3 hn v2) ?_
      refine ev_seg rfl ?_
      simp only [TE, sxs, sx, ldI, ldA, stI, stA, inc, gtF, ptF, ldX, stX, ldR, ldL, stL, dp1, dp2, Tm, kS0, kS1, kS2, kS3, kS4, kS5, kS6, kS7, kS8, kS9, kS10, kS11, kS12, kS13, kS14, kS15, kS16, kS17, kS18, kS19, kS20, kS21, kS22, kS23, kS24, kS25, kS26, kS27, kS28, kS30, kS31, kS32, kS33, kS34, kS35, kS36, kS37, kS38, kS39, kS40, kS41, kS42, kS43, kS51, kS52, kS53, List.getElem?_cons_zero, List.getElem?_cons_succ, List.set_cons_zero, List.set_cons_succ, List.length_cons, List.length_nil, List.drop_succ_cons, List.drop_zero, List.cons_append, List.nil_append, Option.toList_some, Option.toList_none, cz, ci2, true_and, and_true, and_self, true_or, or_true, nI_1, Nat.reduceAdd, Nat.reduceLT]
      refine cu4 rfl rfl (by first | exact rfl | exact trivial) (s_put9 v2 c2) ?_
      rw [hX4]
      refine ev_seg rfl ?_
      simp only [TE, sxs, sx, ldI, ldA, stI, stA, inc, gtF, ptF, ldX, stX, ldR, ldL, stL, dp1, dp2, Tm, kS0, kS1, kS2, kS3, kS4, kS5, kS6, kS7, kS8, kS9, kS10, kS11, kS12, kS13, kS14, kS15, kS16, kS17, kS18, kS19, kS20, kS21, kS22, kS23, kS24, kS25, kS26, kS27, kS28, kS30, kS31, kS32, kS33, kS34, kS35, kS36, kS37, kS38, kS39, kS40, kS41, kS42, kS43, kS51, kS52, kS53, List.getElem?_cons_zero, List.getElem?_cons_succ, List.set_cons_zero, List.set_cons_succ, List.length_cons, List.length_nil, List.drop_succ_cons, List.drop_zero, List.cons_append, List.nil_append, Option.toList_some, Option.toList_none, cz, ci2, true_and, and_true, and_self, true_or, or_true, nI_1, Nat.reduceAdd, Nat.reduceLT]
      exact a1
  obtain ⟨Z, a1, a2, a3, a4⟩ := loop s hse (Nat.le_refl _) X av0 (Fr.rf _ _) (fun i b1 b2 => absurd b2 (by omega)) (fun _ _ _ => rfl)
  refine ⟨Z, ?_, a2, a3, a4⟩
  rw [en49]
  refine ev_seg rfl ?_
  simp only [TE, sxs, sx, ldI, ldA, stI, stA, inc, gtF, ptF, ldX, stX, ldR, ldL, stL, dp1, dp2, Tm, kS0, kS1, kS2, kS3, kS4, kS5, kS6, kS7, kS8, kS9, kS10, kS11, kS12, kS13, kS14, kS15, kS16, kS17, kS18, kS19, kS20, kS21, kS22, kS23, kS24, kS25, kS26, kS27, kS28, kS30, kS31, kS32, kS33, kS34, kS35, kS36, kS37, kS38, kS39, kS40, kS41, kS42, kS43, kS51, kS52, kS53, List.getElem?_cons_zero, List.getElem?_cons_succ, List.set_cons_zero, List.set_cons_succ, List.length_cons, List.length_nil, List.drop_succ_cons, List.drop_zero, List.cons_append, List.nil_append, Option.toList_some, Option.toList_none, cz, ci2, true_and, and_true, and_self, true_or, or_true, nI_1, Nat.reduceAdd, Nat.reduceLT]
  refine cv3 rfl rfl (by first | exact rfl | exact trivial) (s_setOf hn hse he hO) ?_
  rw [hM]
  refine ev_seg rfl ?_
  simp only [TE, sxs, sx, ldI, ldA, stI, stA, inc, gtF, ptF, ldX, stX, ldR, ldL, stL, dp1, dp2, Tm, kS0, kS1, kS2, kS3, kS4, kS5, kS6, kS7, kS8, kS9, kS10, kS11, kS12, kS13, kS14, kS15, kS16, kS17, kS18, kS19, kS20, kS21, kS22, kS23, kS24, kS25, kS26, kS27, kS28, kS30, kS31, kS32, kS33, kS34, kS35, kS36, kS37, kS38, kS39, kS40, kS41, kS42, kS43, kS51, kS52, kS53, List.getElem?_cons_zero, List.getElem?_cons_succ, List.set_cons_zero, List.set_cons_succ, List.length_cons, List.length_nil, List.drop_succ_cons, List.drop_zero, List.cons_append, List.nil_append, Option.toList_some, Option.toList_none, cz, ci2, true_and, and_true, and_self, true_or, or_true, nI_1, Nat.reduceAdd, Nat.reduceLT]
  exact a1
theorem s_markAll {s e n : Nat} {σ : Nat → Nat} (hN : X.1 2 0 g 5 = nI n) (hn : n ≤ 5) (hse : s ≤ e) (he : e ≤ n) (hinj : ∀ i j, i < n → j < n → σ i = σ j → i = j) (hO : OrdH X n σ) :
    ∃ Z, Ev sc (d + 2) 50 0 (ent 50 [vR 8 0 0, vR 2 0 g, vI (nI s), vI (nI e)]) [] X (.inl none) Z 0 ∧ Fr [11] X Z ∧ (∀ i, s ≤ i → i < e → ∀ c, c < 4 → mrow Z (σ i) c = K4 X g n (σ i) c) ∧ ∀ z, z < 5 → (∀ i, s ≤ i → i < e → σ i ≠ z) → mrow Z z = mrow X z := by
  have loop : ∀ p, p ≤ e → s ≤ p → ∀ (X1 : XT) (z : AV), Fr [11] X X1 → (∀ i, s ≤ i → i < p → ∀ c, c < 4 → mrow X1 (σ i) c = K4 X g n (σ i) c) → (∀ z, z < 5 → (∀ i, s ≤ i → i < p → σ i ≠ z) → mrow X1 z = mrow X z) →
      ∃ Z, Ev sc (d + 2) 50 2 [vR 8 0 0, vR 2 0 g, vI (nI s), vI (nI e), vI (evy n), vI (nI p), z] [] X1 (.inl none) Z 0 ∧ Fr [11] X Z ∧ (∀ i, s ≤ i → i < e → ∀ c, c < 4 → mrow Z (σ i) c = K4 X g n (σ i) c) ∧ ∀ z, z < 5 → (∀ i, s ≤ i → i < e → σ i ≠ z) → mrow Z z = mrow X z := by
    apply loop_up
    · intro _ X1 z hf h1 h2
      refine ⟨X1, ?_, hf, h1, h2⟩
      refine ev_seg rfl ?_
      simp only [TE, sxs, sx, ldI, ldA, stI, stA, inc, gtF, ptF, ldX, stX, ldR, ldL, stL, dp1, dp2, Tm, kS0, kS1, kS2, kS3, kS4, kS5, kS6, kS7, kS8, kS9, kS10, kS11, kS12, kS13, kS14, kS15, kS16, kS17, kS18, kS19, kS20, kS21, kS22, kS23, kS24, kS25, kS26, kS27, kS28, kS30, kS31, kS32, kS33, kS34, kS35, kS36, kS37, kS38, kS39, kS40, kS41, kS42, kS43, kS51, kS52, kS53, List.getElem?_cons_zero, List.getElem?_cons_succ, List.set_cons_zero, List.set_cons_succ, List.length_cons, List.length_nil, List.drop_succ_cons, List.drop_zero, List.cons_append, List.nil_append, Option.toList_some, Option.toList_none, cz, ci2, true_and, and_true, and_self, true_or, or_true, nI_1, Nat.reduceAdd, Nat.reduceLT]
      refine ⟨fun _ => ?_, fun h => absurd (nleI (Nat.le_refl _) (by omega)) h⟩
      refine ev_seg rfl ?_
      simp only [TE, sxs, sx, ldI, ldA, stI, stA, inc, gtF, ptF, ldX, stX, ldR, ldL, stL, dp1, dp2, Tm, kS0, kS1, kS2, kS3, kS4, kS5, kS6, kS7, kS8, kS9, kS10, kS11, kS12, kS13, kS14, kS15, kS16, kS17, kS18, kS19, kS20, kS21, kS22, kS23, kS24, kS25, kS26, kS27, kS28, kS30, kS31, kS32, kS33, kS34, kS35, kS36, kS37, kS38, kS39, kS40, kS41, kS42, kS43, kS51, kS52, kS53, List.getElem?_cons_zero, List.getElem?_cons_succ, List.set_cons_zero, List.set_cons_succ, List.length_cons, List.length_nil, List.drop_succ_cons, List.drop_zero, List.cons_append, List.nil_append, Option.toList_some, Option.toList_none, cz, ci2, true_and, and_true, and_self, true_or, or_true, nI_1, Nat.reduceAdd, Nat.reduceLT]
    · intro p hp ih hsp X1 z hf h1 h2
      obtain ⟨o1, o2⟩ := hO p (by omega)
      have v1 : vp_in (nI p) 5 := vpn (by omega) (by decide)
      have v2 : vp_in (nI (σ p)) 5 := vpn (by omega) (by decide)
      have c0 : vp_in 0 4 := vpn (j := 0) (by decide) (by decide)
      have c1 : vp_in 1 4 := vpn (j := 1) (by decide) (by decide)
      have c2 : vp_in 2 4 := vpn (j := 2) (by decide) (by decide)
      have c3 : vp_in 3 4 := vpn (j := 3) (by decide) (by decide)
      have r1 : X1.1 12 0 0 (nI p) = nI (σ p) := by rw [hf.at 12 (by decide)]; exact o1
      have rN : X1.1 2 0 g 5 = nI n := by rw [hf.at 2 (by decide)]; exact hN
      have i11 : 11 ∈ [11] := List.mem_singleton.mpr rfl
      generalize hX2 : ((xs X1.1 11 0 (nI (σ p)) 0 (rowSum X1 g (nI (σ p)) (evy n) dF n), X1.2) : XT) = X2
      have f2 : Fr [11] X1 X2 := by rw [← hX2]; exact Fr.xs _ _ _ _ _ i11
      have rN2 : X2.1 2 0 g 5 = nI n := by rw [f2.at 2 (by decide)]; exact rN
      generalize hX3 : ((xs X2.1 11 0 (nI (σ p)) 1 (rowSum X2 g (nI (σ p)) (evy n) gF9 n), X2.2) : XT) = X3
      have f3 : Fr [11] X2 X3 := by rw [← hX3]; exact Fr.xs _ _ _ _ _ i11
      generalize hX4 : ((xs X3.1 11 0 (nI (σ p)) 2 (-X3.1 6 0 g (nI (σ p))), X3.2) : XT) = X4
      have f4 : Fr [11] X3 X4 := by rw [← hX4]; exact Fr.xs _ _ _ _ _ i11
      generalize hX5 : ((xs X4.1 11 0 (nI (σ p)) 3 (lotMk X4 g (nI (σ p))), X4.2) : XT) = X5
      have f5 : Fr [11] X4 X5 := by rw [← hX5]; exact Fr.xs _ _ _ _ _ i11
      have hs : ∀ f, rowSum X g (nI (σ p)) (evy n) f n = rsC (scC X g) n (fun _ => true) f (σ p) := fun f => rowSum_all hn
      have g1 : rowSum X1 g (nI (σ p)) (evy n) dF n = K4 X g n (σ p) 0 := ((rowSum_fr hf (by decide)).trans (hs _)).trans rfl
      have g2 : rowSum X2 g (nI (σ p)) (evy n) gF9 n = K4 X g n (σ p) 1 := ((rowSum_fr (hf.tr f2) (by decide)).trans (hs _)).trans rfl
      have g3 : -X3.1 6 0 g (nI (σ p)) = K4 X g n (σ p) 2 := by rw [((hf.tr f2).tr f3).at 6 (by decide)]; rfl
      have g4 : lotMk X4 g (nI (σ p)) = K4 X g n (σ p) 3 := by
        unfold lotMk
        rw [(((hf.tr f2).tr f3).tr f4).at 7 (by decide), (((hf.tr f2).tr f3).tr f4).at 2 (by decide)]
        rfl
      have hrow : ∀ w, w < 5 → ∀ q, q < 4 → mrow X5 w q = if w = σ p ∧ q = 3 then K4 X g n (σ p) 3 else if w = σ p ∧ q = 2 then K4 X g n (σ p) 2 else if w = σ p ∧ q = 1 then K4 X g n (σ p) 1 else if w = σ p ∧ q = 0 then K4 X g n (σ p) 0 else mrow X1 w q := by
        intro w hw q hq
        rw [← hX5, g4]
        rw [show (3 : Int32) = nI 3 from rfl, mrow_xs hw (by omega) (by decide) q hq]
        rw [← hX4, g3]
        rw [show (2 : Int32) = nI 2 from rfl, mrow_xs hw (by omega) (by decide) q hq]
        rw [← hX3, g2]
        rw [show (1 : Int32) = nI 1 from rfl, mrow_xs hw (by omega) (by decide) q hq]
        rw [← hX2, g1]
        rw [show mrow (xs X1.1 11 0 (nI (σ p)) 0 (K4 X g n (σ p) 0), X1.2) w q = mrow (xs X1.1 11 0 (nI (σ p)) (nI 0) (K4 X g n (σ p) 0), X1.2) w q from rfl, mrow_xs hw (by omega) (by decide) q hq]
      have hrn : ∀ w, w < 5 → w ≠ σ p → mrow X5 w = mrow X1 w := by
        intro w hw hne
        rw [← hX5, mrow_xn hw (by omega) hne, ← hX4, mrow_xn hw (by omega) hne, ← hX3, mrow_xn hw (by omega) hne, ← hX2, mrow_xn hw (by omega) hne]
      obtain ⟨Z, a1, a2, a3, a4⟩ := ih (by omega) X5 (vI (nI (σ p))) ((((hf.tr f2).tr f3).tr f4).tr f5) (fun i b1 b2 c hc => by
        have hi5 := (hO i (by omega)).2
        by_cases hi : i = p
        · subst hi
          rw [hrow _ (by omega) c (by omega)]
          rcases (show c = 0 ∨ c = 1 ∨ c = 2 ∨ c = 3 by omega) with rfl | rfl | rfl | rfl <;> simp
        · rw [hrn _ (by omega) (fun w => hi (hinj i p (by omega) (by omega) w))]
          exact h1 i b1 (by omega) c hc) (fun z hz hne => by
        rw [hrn z hz (fun w => hne p hsp (by omega) w.symm)]
        exact h2 z hz (fun i b1 b2 => hne i b1 (by omega)))
      refine ⟨Z, ?_, a2, a3, a4⟩
      refine ev_seg rfl ?_
      simp only [TE, sxs, sx, ldI, ldA, stI, stA, inc, gtF, ptF, ldX, stX, ldR, ldL, stL, dp1, dp2, Tm, kS0, kS1, kS2, kS3, kS4, kS5, kS6, kS7, kS8, kS9, kS10, kS11, kS12, kS13, kS14, kS15, kS16, kS17, kS18, kS19, kS20, kS21, kS22, kS23, kS24, kS25, kS26, kS27, kS28, kS30, kS31, kS32, kS33, kS34, kS35, kS36, kS37, kS38, kS39, kS40, kS41, kS42, kS43, kS51, kS52, kS53, List.getElem?_cons_zero, List.getElem?_cons_succ, List.set_cons_zero, List.set_cons_succ, List.length_cons, List.length_nil, List.drop_succ_cons, List.drop_zero, List.cons_append, List.nil_append, Option.toList_some, Option.toList_none, cz, ci2, true_and, and_true, and_self, true_or, or_true, nI_1, Nat.reduceAdd, Nat.reduceLT]
      refine ⟨fun h => absurd h (nle hp (by omega)), fun _ => ?_⟩
      refine ev_seg rfl ?_
      simp only [TE, sxs, sx, ldI, ldA, stI, stA, inc, gtF, ptF, ldX, stX, ldR, ldL, stL, dp1, dp2, Tm, kS0, kS1, kS2, kS3, kS4, kS5, kS6, kS7, kS8, kS9, kS10, kS11, kS12, kS13, kS14, kS15, kS16, kS17, kS18, kS19, kS20, kS21, kS22, kS23, kS24, kS25, kS26, kS27, kS28, kS30, kS31, kS32, kS33, kS34, kS35, kS36, kS37, kS38, kS39, kS40, kS41, kS42, kS43, kS51, kS52, kS53, List.getElem?_cons_zero, List.getElem?_cons_succ, List.set_cons_zero, List.set_cons_succ, List.length_cons, List.length_nil, List.drop_succ_cons, List.drop_zero, List.cons_append, List.nil_append, Option.toList_some, Option.toList_none, cz, ci2, true_and, and_true, and_self, true_or, or_true, nI_1, Nat.reduceAdd, Nat.reduceLT, r1]
      refine ⟨(by first | assumption | (and_intros <;> first | assumption | trivial | decide)), cv3 rfl rfl (by first | exact rfl | exact trivial) (s_differenceFrom rN hn v2) ?_⟩
      refine ev_seg rfl ?_
      simp only [TE, sxs, sx, ldI, ldA, stI, stA, inc, gtF, ptF, ldX, stX, ldR, ldL, stL, dp1, dp2, Tm, kS0, kS1, kS2, kS3, kS4, kS5, kS6, kS7, kS8, kS9, kS10, kS11, kS12, kS13, kS14, kS15, kS16, kS17, kS18, kS19, kS20, kS21, kS22, kS23, kS24, kS25, kS26, kS27, kS28, kS30, kS31, kS32, kS33, kS34, kS35, kS36, kS37, kS38, kS39, kS40, kS41, kS42, kS43, kS51, kS52, kS53, List.getElem?_cons_zero, List.getElem?_cons_succ, List.set_cons_zero, List.set_cons_succ, List.length_cons, List.length_nil, List.drop_succ_cons, List.drop_zero, List.cons_append, List.nil_append, Option.toList_some, Option.toList_none, cz, ci2, true_and, and_true, and_self, true_or, or_true, nI_1, Nat.reduceAdd, Nat.reduceLT]
      refine cu4 rfl rfl (by first | exact rfl | exact trivial) (s_put9 v2 c0) ?_
      rw [hX2]
      refine ev_seg rfl ?_
      simp only [TE, sxs, sx, ldI, ldA, stI, stA, inc, gtF, ptF, ldX, stX, ldR, ldL, stL, dp1, dp2, Tm, kS0, kS1, kS2, kS3, kS4, kS5, kS6, kS7, kS8, kS9, kS10, kS11, kS12, kS13, kS14, kS15, kS16, kS17, kS18, kS19, kS20, kS21, kS22, kS23, kS24, kS25, kS26, kS27, kS28, kS30, kS31, kS32, kS33, kS34, kS35, kS36, kS37, kS38, kS39, kS40, kS41, kS42, kS43, kS51, kS52, kS53, List.getElem?_cons_zero, List.getElem?_cons_succ, List.set_cons_zero, List.set_cons_succ, List.length_cons, List.length_nil, List.drop_succ_cons, List.drop_zero, List.cons_append, List.nil_append, Option.toList_some, Option.toList_none, cz, ci2, true_and, and_true, and_self, true_or, or_true, nI_1, Nat.reduceAdd, Nat.reduceLT]
      refine cv3 rfl rfl (by first | exact rfl | exact trivial) (s_goalsFrom rN2 hn v2) ?_
      refine ev_seg rfl ?_
      simp only [TE, sxs, sx, ldI, ldA, stI, stA, inc, gtF, ptF, ldX, stX, ldR, ldL, stL, dp1, dp2, Tm, kS0, kS1, kS2, kS3, kS4, kS5, kS6, kS7, kS8, kS9, kS10, kS11, kS12, kS13, kS14, kS15, kS16, kS17, kS18, kS19, kS20, kS21, kS22, kS23, kS24, kS25, kS26, kS27, kS28, kS30, kS31, kS32, kS33, kS34, kS35, kS36, kS37, kS38, kS39, kS40, kS41, kS42, kS43, kS51, kS52, kS53, List.getElem?_cons_zero, List.getElem?_cons_succ, List.set_cons_zero, List.set_cons_succ, List.length_cons, List.length_nil, List.drop_succ_cons, List.drop_zero, List.cons_append, List.nil_append, Option.toList_some, Option.toList_none, cz, ci2, true_and, and_true, and_self, true_or, or_true, nI_1, Nat.reduceAdd, Nat.reduceLT]
      refine cu4 rfl rfl (by first | exact rfl | exact trivial) (s_put9 v2 c1) ?_
      rw [hX3]
      refine ev_seg rfl ?_
      simp only [TE, sxs, sx, ldI, ldA, stI, stA, inc, gtF, ptF, ldX, stX, ldR, ldL, stL, dp1, dp2, Tm, kS0, kS1, kS2, kS3, kS4, kS5, kS6, kS7, kS8, kS9, kS10, kS11, kS12, kS13, kS14, kS15, kS16, kS17, kS18, kS19, kS20, kS21, kS22, kS23, kS24, kS25, kS26, kS27, kS28, kS30, kS31, kS32, kS33, kS34, kS35, kS36, kS37, kS38, kS39, kS40, kS41, kS42, kS43, kS51, kS52, kS53, List.getElem?_cons_zero, List.getElem?_cons_succ, List.set_cons_zero, List.set_cons_succ, List.length_cons, List.length_nil, List.drop_succ_cons, List.drop_zero, List.cons_append, List.nil_append, Option.toList_some, Option.toList_none, cz, ci2, true_and, and_true, and_self, true_or, or_true, nI_1, Nat.reduceAdd, Nat.reduceLT]
      refine cv2 rfl rfl (by first | exact rfl | exact trivial) (s_cardMark v2) ?_
      refine ev_seg rfl ?_
      simp only [TE, sxs, sx, ldI, ldA, stI, stA, inc, gtF, ptF, ldX, stX, ldR, ldL, stL, dp1, dp2, Tm, kS0, kS1, kS2, kS3, kS4, kS5, kS6, kS7, kS8, kS9, kS10, kS11, kS12, kS13, kS14, kS15, kS16, kS17, kS18, kS19, kS20, kS21, kS22, kS23, kS24, kS25, kS26, kS27, kS28, kS30, kS31, kS32, kS33, kS34, kS35, kS36, kS37, kS38, kS39, kS40, kS41, kS42, kS43, kS51, kS52, kS53, List.getElem?_cons_zero, List.getElem?_cons_succ, List.set_cons_zero, List.set_cons_succ, List.length_cons, List.length_nil, List.drop_succ_cons, List.drop_zero, List.cons_append, List.nil_append, Option.toList_some, Option.toList_none, cz, ci2, true_and, and_true, and_self, true_or, or_true, nI_1, Nat.reduceAdd, Nat.reduceLT]
      refine cu4 rfl rfl (by first | exact rfl | exact trivial) (s_put9 v2 c2) ?_
      rw [hX4]
      refine ev_seg rfl ?_
      simp only [TE, sxs, sx, ldI, ldA, stI, stA, inc, gtF, ptF, ldX, stX, ldR, ldL, stL, dp1, dp2, Tm, kS0, kS1, kS2, kS3, kS4, kS5, kS6, kS7, kS8, kS9, kS10, kS11, kS12, kS13, kS14, kS15, kS16, kS17, kS18, kS19, kS20, kS21, kS22, kS23, kS24, kS25, kS26, kS27, kS28, kS30, kS31, kS32, kS33, kS34, kS35, kS36, kS37, kS38, kS39, kS40, kS41, kS42, kS43, kS51, kS52, kS53, List.getElem?_cons_zero, List.getElem?_cons_succ, List.set_cons_zero, List.set_cons_succ, List.length_cons, List.length_nil, List.drop_succ_cons, List.drop_zero, List.cons_append, List.nil_append, Option.toList_some, Option.toList_none, cz, ci2, true_and, and_true, and_self, true_or, or_true, nI_1, Nat.reduceAdd, Nat.reduceLT]
      refine cv2 rfl rfl (by first | exact rfl | exact trivial) (s_lotMark v2) ?_
      refine ev_seg rfl ?_
      simp only [TE, sxs, sx, ldI, ldA, stI, stA, inc, gtF, ptF, ldX, stX, ldR, ldL, stL, dp1, dp2, Tm, kS0, kS1, kS2, kS3, kS4, kS5, kS6, kS7, kS8, kS9, kS10, kS11, kS12, kS13, kS14, kS15, kS16, kS17, kS18, kS19, kS20, kS21, kS22, kS23, kS24, kS25, kS26, kS27, kS28, kS30, kS31, kS32, kS33, kS34, kS35, kS36, kS37, kS38, kS39, kS40, kS41, kS42, kS43, kS51, kS52, kS53, List.getElem?_cons_zero, List.getElem?_cons_succ, List.set_cons_zero, List.set_cons_succ, List.length_cons, List.length_nil, List.drop_succ_cons, List.drop_zero, List.cons_append, List.nil_append, Option.toList_some, Option.toList_none, cz, ci2, true_and, and_true, and_self, true_or, or_true, nI_1, Nat.reduceAdd, Nat.reduceLT]
      refine cu4 rfl rfl (by first | exact rfl | exact trivial) (s_put9 v2 c3) ?_
      rw [hX5]
      refine ev_seg rfl ?_
      simp only [TE, sxs, sx, ldI, ldA, stI, stA, inc, gtF, ptF, ldX, stX, ldR, ldL, stL, dp1, dp2, Tm, kS0, kS1, kS2, kS3, kS4, kS5, kS6, kS7, kS8, kS9, kS10, kS11, kS12, kS13, kS14, kS15, kS16, kS17, kS18, kS19, kS20, kS21, kS22, kS23, kS24, kS25, kS26, kS27, kS28, kS30, kS31, kS32, kS33, kS34, kS35, kS36, kS37, kS38, kS39, kS40, kS41, kS42, kS43, kS51, kS52, kS53, List.getElem?_cons_zero, List.getElem?_cons_succ, List.set_cons_zero, List.set_cons_succ, List.length_cons, List.length_nil, List.drop_succ_cons, List.drop_zero, List.cons_append, List.nil_append, Option.toList_some, Option.toList_none, cz, ci2, true_and, and_true, and_self, true_or, or_true, nI_1, Nat.reduceAdd, Nat.reduceLT]
      exact a1
  obtain ⟨Z, a1, a2, a3, a4⟩ := loop s hse (Nat.le_refl _) X av0 (Fr.rf _ _) (fun i b1 b2 => absurd b2 (by omega)) (fun _ _ _ => rfl)
  refine ⟨Z, ?_, a2, a3, a4⟩
  rw [en50]
  refine ev_seg rfl ?_
  simp only [TE, sxs, sx, ldI, ldA, stI, stA, inc, gtF, ptF, ldX, stX, ldR, ldL, stL, dp1, dp2, Tm, kS0, kS1, kS2, kS3, kS4, kS5, kS6, kS7, kS8, kS9, kS10, kS11, kS12, kS13, kS14, kS15, kS16, kS17, kS18, kS19, kS20, kS21, kS22, kS23, kS24, kS25, kS26, kS27, kS28, kS30, kS31, kS32, kS33, kS34, kS35, kS36, kS37, kS38, kS39, kS40, kS41, kS42, kS43, kS51, kS52, kS53, List.getElem?_cons_zero, List.getElem?_cons_succ, List.set_cons_zero, List.set_cons_succ, List.length_cons, List.length_nil, List.drop_succ_cons, List.drop_zero, List.cons_append, List.nil_append, Option.toList_some, Option.toList_none, cz, ci2, true_and, and_true, and_self, true_or, or_true, nI_1, Nat.reduceAdd, Nat.reduceLT]
  refine cv1 rfl rfl (by first | exact rfl | exact trivial) (s_everyone) ?_
  refine ev_seg rfl ?_
  simp only [TE, sxs, sx, ldI, ldA, stI, stA, inc, gtF, ptF, ldX, stX, ldR, ldL, stL, dp1, dp2, Tm, kS0, kS1, kS2, kS3, kS4, kS5, kS6, kS7, kS8, kS9, kS10, kS11, kS12, kS13, kS14, kS15, kS16, kS17, kS18, kS19, kS20, kS21, kS22, kS23, kS24, kS25, kS26, kS27, kS28, kS30, kS31, kS32, kS33, kS34, kS35, kS36, kS37, kS38, kS39, kS40, kS41, kS42, kS43, kS51, kS52, kS53, List.getElem?_cons_zero, List.getElem?_cons_succ, List.set_cons_zero, List.set_cons_succ, List.length_cons, List.length_nil, List.drop_succ_cons, List.drop_zero, List.cons_append, List.nil_append, Option.toList_some, Option.toList_none, cz, ci2, true_and, and_true, and_self, true_or, or_true, nI_1, Nat.reduceAdd, Nat.reduceLT, hN]
  exact a1
theorem s_alikeE {s x e n m : Nat} (he : e ≤ n) (hn : n ≤ 5) (hx : e ≤ x) (hx9 : x < 100) : Ev sc (d + 1) 53 0 (ent 53 [vR 8 0 0, vI (nI s), vI (nI x), vI (nI e), vI (nI m)]) [] X (.inl (some (.inl 1))) X 0 := by
  rw [en53]
  refine ev_seg rfl ?_
  simp only [TE, sxs, sx, ldI, ldA, stI, stA, inc, gtF, ptF, ldX, stX, ldR, ldL, stL, dp1, dp2, Tm, kS0, kS1, kS2, kS3, kS4, kS5, kS6, kS7, kS8, kS9, kS10, kS11, kS12, kS13, kS14, kS15, kS16, kS17, kS18, kS19, kS20, kS21, kS22, kS23, kS24, kS25, kS26, kS27, kS28, kS30, kS31, kS32, kS33, kS34, kS35, kS36, kS37, kS38, kS39, kS40, kS41, kS42, kS43, kS51, kS52, kS53, List.getElem?_cons_zero, List.getElem?_cons_succ, List.set_cons_zero, List.set_cons_succ, List.length_cons, List.length_nil, List.drop_succ_cons, List.drop_zero, List.cons_append, List.nil_append, Option.toList_some, Option.toList_none, cz, ci2, true_and, and_true, and_self, true_or, or_true, nI_1, Nat.reduceAdd, Nat.reduceLT]
  refine ⟨fun _ => ?_, fun h => absurd (nleI hx (by omega)) h⟩
  refine ev_seg rfl ?_
  simp only [TE, sxs, sx, ldI, ldA, stI, stA, inc, gtF, ptF, ldX, stX, ldR, ldL, stL, dp1, dp2, Tm, kS0, kS1, kS2, kS3, kS4, kS5, kS6, kS7, kS8, kS9, kS10, kS11, kS12, kS13, kS14, kS15, kS16, kS17, kS18, kS19, kS20, kS21, kS22, kS23, kS24, kS25, kS26, kS27, kS28, kS30, kS31, kS32, kS33, kS34, kS35, kS36, kS37, kS38, kS39, kS40, kS41, kS42, kS43, kS51, kS52, kS53, List.getElem?_cons_zero, List.getElem?_cons_succ, List.set_cons_zero, List.set_cons_succ, List.length_cons, List.length_nil, List.drop_succ_cons, List.drop_zero, List.cons_append, List.nil_append, Option.toList_some, Option.toList_none, cz, ci2, true_and, and_true, and_self, true_or, or_true, nI_1, Nat.reduceAdd, Nat.reduceLT]
  refine ev_seg rfl ?_
  simp only [TE, sxs, sx, ldI, ldA, stI, stA, inc, gtF, ptF, ldX, stX, ldR, ldL, stL, dp1, dp2, Tm, kS0, kS1, kS2, kS3, kS4, kS5, kS6, kS7, kS8, kS9, kS10, kS11, kS12, kS13, kS14, kS15, kS16, kS17, kS18, kS19, kS20, kS21, kS22, kS23, kS24, kS25, kS26, kS27, kS28, kS30, kS31, kS32, kS33, kS34, kS35, kS36, kS37, kS38, kS39, kS40, kS41, kS42, kS43, kS51, kS52, kS53, List.getElem?_cons_zero, List.getElem?_cons_succ, List.set_cons_zero, List.set_cons_succ, List.length_cons, List.length_nil, List.drop_succ_cons, List.drop_zero, List.cons_append, List.nil_append, Option.toList_some, Option.toList_none, cz, ci2, true_and, and_true, and_self, true_or, or_true, nI_1, Nat.reduceAdd, Nat.reduceLT]
theorem s_alikeI {s x e n m : Nat} {σ : Nat → Nat} (he : e ≤ n) (hn : n ≤ 5) (hm : m ≤ 4) (hs : s < n) (hx : x < e) (hO : OrdH X n σ) : Ev sc (d + 1) 53 0 (ent 53 [vR 8 0 0, vI (nI s), vI (nI x), vI (nI e), vI (nI m)]) [] X (.inl (some (.inl (bI (fa (mrow X (σ s)) (mrow X (σ x)) m < m))))) X 0 := by
  rw [en53]
  obtain ⟨o1, o2⟩ := hO s hs
  obtain ⟨o3, o4⟩ := hO x (by omega)
  have v1 : vp_in (nI s) 5 := vpn (by omega) (by decide)
  have v2 : vp_in (nI x) 5 := vpn (by omega) (by decide)
  have w1 : vp_in (nI (σ s)) 5 := vpn (by omega) (by decide)
  have w2 : vp_in (nI (σ x)) 5 := vpn (by omega) (by decide)
  have hle := fa_le (mrow X (σ s)) (mrow X (σ x)) m
  have e0 : fa (fun c => X.1 11 0 (nI (σ s)) (nI c)) (fun c => X.1 11 0 (nI (σ x)) (nI c)) m = fa (mrow X (σ s)) (mrow X (σ x)) m := rfl
  refine ev_seg rfl ?_
  simp only [TE, sxs, sx, ldI, ldA, stI, stA, inc, gtF, ptF, ldX, stX, ldR, ldL, stL, dp1, dp2, Tm, kS0, kS1, kS2, kS3, kS4, kS5, kS6, kS7, kS8, kS9, kS10, kS11, kS12, kS13, kS14, kS15, kS16, kS17, kS18, kS19, kS20, kS21, kS22, kS23, kS24, kS25, kS26, kS27, kS28, kS30, kS31, kS32, kS33, kS34, kS35, kS36, kS37, kS38, kS39, kS40, kS41, kS42, kS43, kS51, kS52, kS53, List.getElem?_cons_zero, List.getElem?_cons_succ, List.set_cons_zero, List.set_cons_succ, List.length_cons, List.length_nil, List.drop_succ_cons, List.drop_zero, List.cons_append, List.nil_append, Option.toList_some, Option.toList_none, cz, ci2, true_and, and_true, and_self, true_or, or_true, nI_1, Nat.reduceAdd, Nat.reduceLT]
  refine ⟨fun h => absurd h (nle hx (by omega)), fun _ => ?_⟩
  refine ev_seg rfl ?_
  simp only [TE, sxs, sx, ldI, ldA, stI, stA, inc, gtF, ptF, ldX, stX, ldR, ldL, stL, dp1, dp2, Tm, kS0, kS1, kS2, kS3, kS4, kS5, kS6, kS7, kS8, kS9, kS10, kS11, kS12, kS13, kS14, kS15, kS16, kS17, kS18, kS19, kS20, kS21, kS22, kS23, kS24, kS25, kS26, kS27, kS28, kS30, kS31, kS32, kS33, kS34, kS35, kS36, kS37, kS38, kS39, kS40, kS41, kS42, kS43, kS51, kS52, kS53, List.getElem?_cons_zero, List.getElem?_cons_succ, List.set_cons_zero, List.set_cons_succ, List.length_cons, List.length_nil, List.drop_succ_cons, List.drop_zero, List.cons_append, List.nil_append, Option.toList_some, Option.toList_none, cz, ci2, true_and, and_true, and_self, true_or, or_true, nI_1, Nat.reduceAdd, Nat.reduceLT, o1, o3]
  refine ⟨(by first | assumption | (and_intros <;> first | assumption | trivial | decide)), cv4 rfl rfl (by first | exact rfl | exact trivial) (s_firstApart9 w1 w2 hm) ?_⟩
  refine ev_seg rfl ?_
  simp only [TE, sxs, sx, ldI, ldA, stI, stA, inc, gtF, ptF, ldX, stX, ldR, ldL, stL, dp1, dp2, Tm, kS0, kS1, kS2, kS3, kS4, kS5, kS6, kS7, kS8, kS9, kS10, kS11, kS12, kS13, kS14, kS15, kS16, kS17, kS18, kS19, kS20, kS21, kS22, kS23, kS24, kS25, kS26, kS27, kS28, kS30, kS31, kS32, kS33, kS34, kS35, kS36, kS37, kS38, kS39, kS40, kS41, kS42, kS43, kS51, kS52, kS53, List.getElem?_cons_zero, List.getElem?_cons_succ, List.set_cons_zero, List.set_cons_succ, List.length_cons, List.length_nil, List.drop_succ_cons, List.drop_zero, List.cons_append, List.nil_append, Option.toList_some, Option.toList_none, cz, ci2, true_and, and_true, and_self, true_or, or_true, nI_1, Nat.reduceAdd, Nat.reduceLT, e0]
  refine ⟨fun h => ?_, fun h => ?_⟩
  · rw [bI_f (fun q => nle q (by omega) h)]
    refine ev_seg rfl ?_
    simp only [TE, sxs, sx, ldI, ldA, stI, stA, inc, gtF, ptF, ldX, stX, ldR, ldL, stL, dp1, dp2, Tm, kS0, kS1, kS2, kS3, kS4, kS5, kS6, kS7, kS8, kS9, kS10, kS11, kS12, kS13, kS14, kS15, kS16, kS17, kS18, kS19, kS20, kS21, kS22, kS23, kS24, kS25, kS26, kS27, kS28, kS30, kS31, kS32, kS33, kS34, kS35, kS36, kS37, kS38, kS39, kS40, kS41, kS42, kS43, kS51, kS52, kS53, List.getElem?_cons_zero, List.getElem?_cons_succ, List.set_cons_zero, List.set_cons_succ, List.length_cons, List.length_nil, List.drop_succ_cons, List.drop_zero, List.cons_append, List.nil_append, Option.toList_some, Option.toList_none, cz, ci2, true_and, and_true, and_self, true_or, or_true, nI_1, Nat.reduceAdd, Nat.reduceLT]
    refine ev_seg rfl ?_
    simp only [TE, sxs, sx, ldI, ldA, stI, stA, inc, gtF, ptF, ldX, stX, ldR, ldL, stL, dp1, dp2, Tm, kS0, kS1, kS2, kS3, kS4, kS5, kS6, kS7, kS8, kS9, kS10, kS11, kS12, kS13, kS14, kS15, kS16, kS17, kS18, kS19, kS20, kS21, kS22, kS23, kS24, kS25, kS26, kS27, kS28, kS30, kS31, kS32, kS33, kS34, kS35, kS36, kS37, kS38, kS39, kS40, kS41, kS42, kS43, kS51, kS52, kS53, List.getElem?_cons_zero, List.getElem?_cons_succ, List.set_cons_zero, List.set_cons_succ, List.length_cons, List.length_nil, List.drop_succ_cons, List.drop_zero, List.cons_append, List.nil_append, Option.toList_some, Option.toList_none, cz, ci2, true_and, and_true, and_self, true_or, or_true, nI_1, Nat.reduceAdd, Nat.reduceLT]
  · rw [bI_t (by
      rcases Nat.lt_or_ge (fa (mrow X (σ s)) (mrow X (σ x)) m) m with q | q
      · exact q
      · exact absurd (nleI q (by omega)) h)]
    refine ev_seg rfl ?_
    simp only [TE, sxs, sx, ldI, ldA, stI, stA, inc, gtF, ptF, ldX, stX, ldR, ldL, stL, dp1, dp2, Tm, kS0, kS1, kS2, kS3, kS4, kS5, kS6, kS7, kS8, kS9, kS10, kS11, kS12, kS13, kS14, kS15, kS16, kS17, kS18, kS19, kS20, kS21, kS22, kS23, kS24, kS25, kS26, kS27, kS28, kS30, kS31, kS32, kS33, kS34, kS35, kS36, kS37, kS38, kS39, kS40, kS41, kS42, kS43, kS51, kS52, kS53, List.getElem?_cons_zero, List.getElem?_cons_succ, List.set_cons_zero, List.set_cons_succ, List.length_cons, List.length_nil, List.drop_succ_cons, List.drop_zero, List.cons_append, List.nil_append, Option.toList_some, Option.toList_none, cz, ci2, true_and, and_true, and_self, true_or, or_true, nI_1, Nat.reduceAdd, Nat.reduceLT]
    refine ev_seg rfl ?_
    simp only [TE, sxs, sx, ldI, ldA, stI, stA, inc, gtF, ptF, ldX, stX, ldR, ldL, stL, dp1, dp2, Tm, kS0, kS1, kS2, kS3, kS4, kS5, kS6, kS7, kS8, kS9, kS10, kS11, kS12, kS13, kS14, kS15, kS16, kS17, kS18, kS19, kS20, kS21, kS22, kS23, kS24, kS25, kS26, kS27, kS28, kS30, kS31, kS32, kS33, kS34, kS35, kS36, kS37, kS38, kS39, kS40, kS41, kS42, kS43, kS51, kS52, kS53, List.getElem?_cons_zero, List.getElem?_cons_succ, List.set_cons_zero, List.set_cons_succ, List.length_cons, List.length_nil, List.drop_succ_cons, List.drop_zero, List.cons_append, List.nil_append, Option.toList_some, Option.toList_none, cz, ci2, true_and, and_true, and_self, true_or, or_true, nI_1, Nat.reduceAdd, Nat.reduceLT]
end Mkg
