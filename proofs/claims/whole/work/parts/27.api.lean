/-! what the class holds -/
def CI (X : XT) (c : Nat) (bs nn : Nat → Nat) (lp lt : Nat) : Prop := (c ≤ 6 ∧ bs 0 = 0 ∧ (∀ i, i < c → bs (i + 1) = bs i + nn i) ∧ (∀ i, i < c → 3 ≤ nn i ∧ nn i ≤ 5)) ∧ (X.1 0 0 0 5 = nI c ∧ X.1 0 0 0 6 = nI (bs c) ∧ X.1 0 0 0 7 = nI lp ∧ X.1 0 0 0 8 = nI lt) ∧ (1 ≤ lp ∧ lp ≤ 2 ∧ lt ≤ 6) ∧
  ((∀ i, i < c → X.1 2 0 (nI i) 4 = nI (bs i)) ∧ (∀ i, i < c → X.1 2 0 (nI i) 5 = nI (nn i))) ∧ ((∀ i, i < c → SY (scC X (nI i)) (nn i)) ∧ (∀ i, i < c → ∀ a b, a < nn i → b < nn i → scC X (nI i) a b = -1 ∨ ∃ v, v ≤ 20 ∧ scC X (nI i) a b = nI v)) ∧
  ((∀ i, i < c → ∀ a, a < nn i → ∃ v, v ≤ 20 ∧ X.1 5 0 (nI i) (nI a) = nI v) ∧ (∀ i, i < c → ∀ a, a < nn i → ∃ v, v ≤ 50 ∧ X.1 6 0 (nI i) (nI a) = nI v) ∧ (∀ i, i < c → ∀ a, a < nn i → ∃ v, v ≤ 99 ∧ X.1 7 0 (nI i) (nI a) = nI v))
section Api
variable {sc : SC} {d : Nat} {X : XT} {c lp lt : Nat} {bs nn : Nat → Nat}
theorem CI.fr {K : List Nat} {X' : XT} (h : CI X c bs nn lp lt) (hf : Fr K X X') (h0 : 0 ∉ K) (h2 : 2 ∉ K) (h4 : 4 ∉ K) (h5 : 5 ∉ K) (h6 : 6 ∉ K) (h7 : 7 ∉ K) : CI X' c bs nn lp lt := by
  obtain ⟨a, b, e, f, g, i⟩ := h
  unfold CI
  rw [hf.2 0 h0, hf.2 2 h2, hf.2 5 h5, hf.2 6 h6, hf.2 7 h7]
  refine ⟨a, b, e, f, ?_, i⟩
  have : ∀ k, scC X' k = scC X k := fun k => scC_fr hf h4
  simp only [this]
  exact g
theorem CI.hc (h : CI X c bs nn lp lt) : c ≤ 6 := h.1.1
theorem CI.bS (h : CI X c bs nn lp lt) {i : Nat} (hi : i < c) : bs (i + 1) = bs i + nn i := h.1.2.2.1 i hi
theorem CI.n3 (h : CI X c bs nn lp lt) {i : Nat} (hi : i < c) : 3 ≤ nn i ∧ nn i ≤ 5 := h.1.2.2.2 i hi
theorem CI.c5 (h : CI X c bs nn lp lt) : X.1 0 0 0 5 = nI c := h.2.1.1
theorem CI.c6 (h : CI X c bs nn lp lt) : X.1 0 0 0 6 = nI (bs c) := h.2.1.2.1
theorem CI.c7 (h : CI X c bs nn lp lt) : X.1 0 0 0 7 = nI lp := h.2.1.2.2.1
theorem CI.c8 (h : CI X c bs nn lp lt) : X.1 0 0 0 8 = nI lt := h.2.1.2.2.2
theorem CI.lpb (h : CI X c bs nn lp lt) : 1 ≤ lp ∧ lp ≤ 2 ∧ lt ≤ 6 := h.2.2.1
theorem CI.g4 (h : CI X c bs nn lp lt) {i : Nat} (hi : i < c) : X.1 2 0 (nI i) 4 = nI (bs i) := h.2.2.2.1.1 i hi
theorem CI.g5 (h : CI X c bs nn lp lt) {i : Nat} (hi : i < c) : X.1 2 0 (nI i) 5 = nI (nn i) := h.2.2.2.1.2 i hi
theorem CI.sy (h : CI X c bs nn lp lt) {i : Nat} (hi : i < c) : SY (scC X (nI i)) (nn i) := h.2.2.2.2.1.1 i hi
theorem CI.sr (h : CI X c bs nn lp lt) {i : Nat} (hi : i < c) {a b : Nat} (ha : a < nn i) (hb : b < nn i) : scC X (nI i) a b = -1 ∨ ∃ v, v ≤ 20 ∧ scC X (nI i) a b = nI v := h.2.2.2.2.1.2 i hi a b ha hb
theorem CI.tk (h : CI X c bs nn lp lt) {i : Nat} (hi : i < c) {a : Nat} (ha : a < nn i) : ∃ v, v ≤ 20 ∧ X.1 5 0 (nI i) (nI a) = nI v := h.2.2.2.2.2.1 i hi a ha
theorem CI.cd (h : CI X c bs nn lp lt) {i : Nat} (hi : i < c) {a : Nat} (ha : a < nn i) : ∃ v, v ≤ 50 ∧ X.1 6 0 (nI i) (nI a) = nI v := h.2.2.2.2.2.2.1 i hi a ha
theorem CI.lo (h : CI X c bs nn lp lt) {i : Nat} (hi : i < c) {a : Nat} (ha : a < nn i) : ∃ v, v ≤ 99 ∧ X.1 7 0 (nI i) (nI a) = nI v := h.2.2.2.2.2.2.2 i hi a ha
theorem CI.b5 (h : CI X c bs nn lp lt) : ∀ i, i ≤ c → 3 * i ≤ bs i ∧ bs i ≤ 5 * i
  | 0, _ => by rw [h.1.2.1]; omega
  | i + 1, hi => by
    have := h.b5 i (by omega)
    have := h.n3 (i := i) (by omega)
    rw [h.bS (by omega)]
    omega
theorem CI.bm (h : CI X c bs nn lp lt) {i : Nat} : ∀ {j : Nat}, i ≤ j → j ≤ c → bs i ≤ bs j
  | 0, hij, _ => by rw [show i = 0 by omega]; exact Nat.le_refl _
  | j + 1, hij, hj => by
    by_cases hi : i = j + 1
    · rw [hi]; exact Nat.le_refl _
    · have := h.bm (i := i) (j := j) (by omega) (by omega)
      have := h.bS (i := j) (by omega)
      omega
/-- every team is in a group -/
theorem CI.find (h : CI X c bs nn lp lt) {T : Nat} (hT : T < bs c) : ∃ i, i < c ∧ bs i ≤ T ∧ T < bs i + nn i := by
  have : ∀ j, j ≤ c → T < bs j → ∃ i, i < c ∧ bs i ≤ T ∧ T < bs i + nn i := by
    intro j
    induction j with
    | zero => intro _ h0; rw [h.1.2.1] at h0; omega
    | succ j ih =>
      intro hj h1
      by_cases h2 : T < bs j
      · exact ih (by omega) h2
      · exact ⟨j, by omega, by omega, by rw [← h.bS (by omega)]; exact h1⟩
  exact this c (Nat.le_refl _) hT
theorem CI.lot (h : CI X c bs nn lp lt) {i : Nat} (hi : i < c) {a : Nat} (ha : a < nn i) : ∃ v : Nat, v ≤ 99 ∧ X.1 7 0 (nI i) (nI a) = nI v ∧ lotMk X (nI i) (nI a) = zI (-(30 * v + bs i + a : Nat)) := by
  obtain ⟨v, h1, h2⟩ := h.lo hi ha
  refine ⟨v, h1, h2, ?_⟩
  unfold lotMk
  rw [h2, h.g4 hi, show (6 : Int32) = nI 6 from rfl, show (5 : Int32) = nI 5 from rfl, nI_ml, nI_ml, nI_ad, nI_ad, zI_n]
  rw [show zI (-(30 * v + bs i + a : Nat)) = -zI (30 * v + bs i + a : Nat) from Int32.ofInt_neg _]
  congr 3
  omega
theorem CI.glk (h : CI X c bs nn lp lt) {i : Nat} (hi : i < c) : GLK X (nI i) (nn i) := by
  have h3 := h.n3 hi
  refine ⟨h.g5 hi, h3.1, h3.2, fun a b ha hb hne he => ?_⟩
  obtain ⟨v, v1, -, v2⟩ := h.lot hi ha
  obtain ⟨w, w1, -, w2⟩ := h.lot hi hb
  have := h.b5 i (by omega)
  have := h.hc
  rw [v2, w2, zI_inj (by omega) (by omega) (by omega) (by omega)] at he
  omega
theorem sumN_z {f : Nat → Int32} {B : Int} (hB : 0 ≤ B) : ∀ {n : Nat}, (∀ j, j < n → ∃ z, f j = zI z ∧ -B ≤ z ∧ z ≤ B) → ∃ z, sumN f n = zI z ∧ -(n * B) ≤ z ∧ z ≤ n * B
  | 0, _ => ⟨0, rfl, by simp, by simp⟩
  | n + 1, h => by
    obtain ⟨z, a1, a2, a3⟩ := sumN_z hB (n := n) (fun j hj => h j (by omega))
    obtain ⟨y, b1, b2, b3⟩ := h n (by omega)
    refine ⟨z + y, by rw [sumN, a1, b1, ← Int32.ofInt_add], ?_, ?_⟩
    · rw [Int.natCast_add, Int.add_mul]; omega
    · rw [Int.natCast_add, Int.add_mul]; omega
/-- sums of a row are small -/
theorem CI.rs (h : CI X c bs nn lp lt) {i : Nat} (hi : i < c) {a : Nat} (ha : a < nn i) (C : Nat → Bool) : (∃ z, rsC (scC X (nI i)) (nn i) C pF a = zI z ∧ -100 ≤ z ∧ z ≤ 100) ∧ (∃ z, rsC (scC X (nI i)) (nn i) C dF a = zI z ∧ -100 ≤ z ∧ z ≤ 100) ∧ ∃ z, rsC (scC X (nI i)) (nn i) C gF9 a = zI z ∧ -100 ≤ z ∧ z ≤ 100 := by
  have h3 := h.n3 hi
  have key : ∀ f : Int32 → Int32 → Int32, (∀ v w, v ≤ 20 → w ≤ 20 → ∃ z, f (nI v) (nI w) = zI z ∧ -20 ≤ z ∧ z ≤ 20) → ∃ z, rsC (scC X (nI i)) (nn i) C f a = zI z ∧ -100 ≤ z ∧ z ≤ 100 := by
    intro f hf
    have := sumN_z (f := fun j => if C j = true ∧ ¬ scC X (nI i) a j = -1 then f (scC X (nI i) a j) (scC X (nI i) j a) else 0) (B := 20) (by omega) (n := nn i) (fun j hj => by
      by_cases hc : C j = true ∧ ¬ scC X (nI i) a j = -1
      · obtain ⟨v, v1, v2⟩ := (h.sr hi ha hj).resolve_left hc.2
        obtain ⟨w, w1, w2⟩ := (h.sr hi hj ha).resolve_left (fun e => hc.2 (((h.sy hi).2 a j ha hj).mpr e))
        obtain ⟨z, z1, z2, z3⟩ := hf v w v1 w1
        exact ⟨z, by rw [if_pos hc, v2, w2, z1], z2, z3⟩
      · exact ⟨0, by rw [if_neg hc]; rfl, by omega, by omega⟩)
    obtain ⟨z, a1, a2, a3⟩ := this
    have : (nn i : Int) ≤ 5 := by omega
    exact ⟨z, a1, by omega, by omega⟩
  refine ⟨key pF (fun v w _ _ => ?_), key dF (fun v w hv hw => ⟨(v : Int) - w, ?_, by omega, by omega⟩), key gF9 (fun v w hv _ => ⟨(v : Int), zI_n v, by omega, by omega⟩)⟩
  · unfold pF
    split
    · exact ⟨1, rfl, by omega, by omega⟩
    · split
      · exact ⟨0, rfl, by omega, by omega⟩
      · exact ⟨3, rfl, by omega, by omega⟩
  · unfold dF
    rw [zI_n, zI_n, ← Int32.ofInt_sub]
theorem CI.px (h : CI X c bs nn lp lt) {i : Nat} (hi : i < c) {a : Nat} (ha : a < nn i) : ∃ z, PX X (nI i) (nn i) a = zI z ∧ -120 ≤ z ∧ z ≤ 120 := by
  obtain ⟨z, z1, z2, z3⟩ := (h.rs hi ha (fun _ => true)).1
  obtain ⟨v, v1, v2⟩ := h.tk hi ha
  exact ⟨z - v, by unfold PX; rw [z1, v2, zI_n, ← Int32.ofInt_sub], by omega, by omega⟩
theorem CI.pz (h : CI X c bs nn lp lt) {i : Nat} (hi : i < c) : bd (nn i) 4000 (PZ X (nI i) (nn i)) := by
  intro a ha
  obtain ⟨z, z1, z2, z3⟩ := h.px hi ha
  unfold PZ
  rw [z1, Int32.toInt_ofInt_of_le (by omega) (by omega)]
  omega
/-! the checks -/
theorem s_needInRange {v lo hi : Int32} : (lo ≤ v ∧ v ≤ hi → Ev sc d 84 0 (ent 84 [vI v, vI lo, vI hi]) [] X (.inl none) X 0) ∧ (¬ (lo ≤ v ∧ v ≤ hi) → Ev sc d 84 0 (ent 84 [vI v, vI lo, vI hi]) [] X (.inr 1) X 1) := by
  constructor
  · intro h
    rw [en84]
    refine ev_seg rfl ?_
    simp only [TE, sxs, sx, ldI, ldA, stI, stA, inc, gtF, ptF, ldX, stX, ldR, ldL, stL, dp1, dp2, Tm, kS0, kS1, kS2, kS3, kS4, kS5, kS6, kS7, kS8, kS9, kS10, kS11, kS12, kS13, kS14, kS15, kS16, kS17, kS18, kS19, kS20, kS21, kS22, kS23, kS24, kS25, kS26, kS27, kS28, kS30, kS31, kS32, kS33, kS34, kS35, kS36, kS37, kS38, kS39, kS40, kS41, kS42, kS43, kS51, kS52, kS53, List.getElem?_cons_zero, List.getElem?_cons_succ, List.set_cons_zero, List.set_cons_succ, List.length_cons, List.length_nil, List.drop_succ_cons, List.drop_zero, List.cons_append, List.nil_append, Option.toList_some, Option.toList_none, cz, ci2, true_and, and_true, and_self, true_or, or_true, nI_1, Nat.reduceAdd, Nat.reduceLT]
    refine ⟨fun w => absurd w (i_nlt h.1), fun _ => ?_⟩
    refine ev_seg rfl ?_
    simp only [TE, sxs, sx, ldI, ldA, stI, stA, inc, gtF, ptF, ldX, stX, ldR, ldL, stL, dp1, dp2, Tm, kS0, kS1, kS2, kS3, kS4, kS5, kS6, kS7, kS8, kS9, kS10, kS11, kS12, kS13, kS14, kS15, kS16, kS17, kS18, kS19, kS20, kS21, kS22, kS23, kS24, kS25, kS26, kS27, kS28, kS30, kS31, kS32, kS33, kS34, kS35, kS36, kS37, kS38, kS39, kS40, kS41, kS42, kS43, kS51, kS52, kS53, List.getElem?_cons_zero, List.getElem?_cons_succ, List.set_cons_zero, List.set_cons_succ, List.length_cons, List.length_nil, List.drop_succ_cons, List.drop_zero, List.cons_append, List.nil_append, Option.toList_some, Option.toList_none, cz, ci2, true_and, and_true, and_self, true_or, or_true, nI_1, Nat.reduceAdd, Nat.reduceLT]
    refine ⟨fun _ => ?_, fun w => absurd h.2 w⟩
    refine ev_seg rfl ?_
    simp only [TE, sxs, sx, ldI, ldA, stI, stA, inc, gtF, ptF, ldX, stX, ldR, ldL, stL, dp1, dp2, Tm, kS0, kS1, kS2, kS3, kS4, kS5, kS6, kS7, kS8, kS9, kS10, kS11, kS12, kS13, kS14, kS15, kS16, kS17, kS18, kS19, kS20, kS21, kS22, kS23, kS24, kS25, kS26, kS27, kS28, kS30, kS31, kS32, kS33, kS34, kS35, kS36, kS37, kS38, kS39, kS40, kS41, kS42, kS43, kS51, kS52, kS53, List.getElem?_cons_zero, List.getElem?_cons_succ, List.set_cons_zero, List.set_cons_succ, List.length_cons, List.length_nil, List.drop_succ_cons, List.drop_zero, List.cons_append, List.nil_append, Option.toList_some, Option.toList_none, cz, ci2, true_and, and_true, and_self, true_or, or_true, nI_1, Nat.reduceAdd, Nat.reduceLT]
  · intro h
    have ht : Ev sc d 84 2 [vI v, vI lo, vI hi] [] X (.inr 1) X 1 := by
      refine ev_seg rfl ?_
      simp only [TE, sxs, sx, ldI, ldA, stI, stA, inc, gtF, ptF, ldX, stX, ldR, ldL, stL, dp1, dp2, Tm, kS0, kS1, kS2, kS3, kS4, kS5, kS6, kS7, kS8, kS9, kS10, kS11, kS12, kS13, kS14, kS15, kS16, kS17, kS18, kS19, kS20, kS21, kS22, kS23, kS24, kS25, kS26, kS27, kS28, kS30, kS31, kS32, kS33, kS34, kS35, kS36, kS37, kS38, kS39, kS40, kS41, kS42, kS43, kS51, kS52, kS53, List.getElem?_cons_zero, List.getElem?_cons_succ, List.set_cons_zero, List.set_cons_succ, List.length_cons, List.length_nil, List.drop_succ_cons, List.drop_zero, List.cons_append, List.nil_append, Option.toList_some, Option.toList_none, cz, ci2, true_and, and_true, and_self, true_or, or_true, nI_1, Nat.reduceAdd, Nat.reduceLT]
    rw [en84]
    refine ev_seg rfl ?_
    simp only [TE, sxs, sx, ldI, ldA, stI, stA, inc, gtF, ptF, ldX, stX, ldR, ldL, stL, dp1, dp2, Tm, kS0, kS1, kS2, kS3, kS4, kS5, kS6, kS7, kS8, kS9, kS10, kS11, kS12, kS13, kS14, kS15, kS16, kS17, kS18, kS19, kS20, kS21, kS22, kS23, kS24, kS25, kS26, kS27, kS28, kS30, kS31, kS32, kS33, kS34, kS35, kS36, kS37, kS38, kS39, kS40, kS41, kS42, kS43, kS51, kS52, kS53, List.getElem?_cons_zero, List.getElem?_cons_succ, List.set_cons_zero, List.set_cons_succ, List.length_cons, List.length_nil, List.drop_succ_cons, List.drop_zero, List.cons_append, List.nil_append, Option.toList_some, Option.toList_none, cz, ci2, true_and, and_true, and_self, true_or, or_true, nI_1, Nat.reduceAdd, Nat.reduceLT]
    refine ⟨fun _ => ht, fun w => ?_⟩
    refine ev_seg rfl ?_
    simp only [TE, sxs, sx, ldI, ldA, stI, stA, inc, gtF, ptF, ldX, stX, ldR, ldL, stL, dp1, dp2, Tm, kS0, kS1, kS2, kS3, kS4, kS5, kS6, kS7, kS8, kS9, kS10, kS11, kS12, kS13, kS14, kS15, kS16, kS17, kS18, kS19, kS20, kS21, kS22, kS23, kS24, kS25, kS26, kS27, kS28, kS30, kS31, kS32, kS33, kS34, kS35, kS36, kS37, kS38, kS39, kS40, kS41, kS42, kS43, kS51, kS52, kS53, List.getElem?_cons_zero, List.getElem?_cons_succ, List.set_cons_zero, List.set_cons_succ, List.length_cons, List.length_nil, List.drop_succ_cons, List.drop_zero, List.cons_append, List.nil_append, Option.toList_some, Option.toList_none, cz, ci2, true_and, and_true, and_self, true_or, or_true, nI_1, Nat.reduceAdd, Nat.reduceLT]
    refine ⟨fun w2 => absurd ⟨i_le w, w2⟩ h, fun _ => ht⟩
theorem i_ge0 {v : Int32} (h : ¬ v < 0) : 0 ≤ v := i_le h
/-- a number from 0 on, below n -/
theorem i_nat {v : Int32} {n : Nat} (h0 : ¬ v < 0) (hn : v < nI n) (hn9 : n < 1000) : ∃ T, T < n ∧ v = nI T := by
  have h1 : 0 ≤ v.toInt := by
    have := i_le h0
    rw [Int32.le_iff_toInt_le] at this
    exact this
  have h2 : v.toInt < n := by
    rw [zI_n, Int32.lt_iff_toInt_lt, Int32.toInt_ofInt_of_le (by omega) (by omega)] at hn
    exact hn
  refine ⟨v.toInt.toNat, by omega, ?_⟩
  rw [zI_n, Int.toNat_of_nonneg h1, zI, Int32.ofInt_toInt]
theorem s_needGroup {v : Int32} (h : CI X c bs nn lp lt) : ((∃ i, i < c ∧ v = nI i) → Ev sc d 85 0 (ent 85 [vR 0 0 0, vI v]) [] X (.inl none) X 0) ∧ ((¬ ∃ i, i < c ∧ v = nI i) → Ev sc d 85 0 (ent 85 [vR 0 0 0, vI v]) [] X (.inr 0) X 1) := by
  have hc := h.hc
  constructor
  · rintro ⟨i, hi, rfl⟩
    rw [en85]
    refine ev_seg rfl ?_
    simp only [TE, sxs, sx, ldI, ldA, stI, stA, inc, gtF, ptF, ldX, stX, ldR, ldL, stL, dp1, dp2, Tm, kS0, kS1, kS2, kS3, kS4, kS5, kS6, kS7, kS8, kS9, kS10, kS11, kS12, kS13, kS14, kS15, kS16, kS17, kS18, kS19, kS20, kS21, kS22, kS23, kS24, kS25, kS26, kS27, kS28, kS30, kS31, kS32, kS33, kS34, kS35, kS36, kS37, kS38, kS39, kS40, kS41, kS42, kS43, kS51, kS52, kS53, List.getElem?_cons_zero, List.getElem?_cons_succ, List.set_cons_zero, List.set_cons_succ, List.length_cons, List.length_nil, List.drop_succ_cons, List.drop_zero, List.cons_append, List.nil_append, Option.toList_some, Option.toList_none, cz, ci2, true_and, and_true, and_self, true_or, or_true, nI_1, Nat.reduceAdd, Nat.reduceLT]
    refine ⟨fun w => absurd w (i_nlt (nleI (a := 0) (Nat.zero_le _) (by omega))), fun _ => ?_⟩
    refine ev_seg rfl ?_
    simp only [TE, sxs, sx, ldI, ldA, stI, stA, inc, gtF, ptF, ldX, stX, ldR, ldL, stL, dp1, dp2, Tm, kS0, kS1, kS2, kS3, kS4, kS5, kS6, kS7, kS8, kS9, kS10, kS11, kS12, kS13, kS14, kS15, kS16, kS17, kS18, kS19, kS20, kS21, kS22, kS23, kS24, kS25, kS26, kS27, kS28, kS30, kS31, kS32, kS33, kS34, kS35, kS36, kS37, kS38, kS39, kS40, kS41, kS42, kS43, kS51, kS52, kS53, List.getElem?_cons_zero, List.getElem?_cons_succ, List.set_cons_zero, List.set_cons_succ, List.length_cons, List.length_nil, List.drop_succ_cons, List.drop_zero, List.cons_append, List.nil_append, Option.toList_some, Option.toList_none, cz, ci2, true_and, and_true, and_self, true_or, or_true, nI_1, Nat.reduceAdd, Nat.reduceLT, h.c5]
    refine ⟨fun _ => ?_, fun w => absurd (nI_lt hi (by omega)) w⟩
    refine ev_seg rfl ?_
    simp only [TE, sxs, sx, ldI, ldA, stI, stA, inc, gtF, ptF, ldX, stX, ldR, ldL, stL, dp1, dp2, Tm, kS0, kS1, kS2, kS3, kS4, kS5, kS6, kS7, kS8, kS9, kS10, kS11, kS12, kS13, kS14, kS15, kS16, kS17, kS18, kS19, kS20, kS21, kS22, kS23, kS24, kS25, kS26, kS27, kS28, kS30, kS31, kS32, kS33, kS34, kS35, kS36, kS37, kS38, kS39, kS40, kS41, kS42, kS43, kS51, kS52, kS53, List.getElem?_cons_zero, List.getElem?_cons_succ, List.set_cons_zero, List.set_cons_succ, List.length_cons, List.length_nil, List.drop_succ_cons, List.drop_zero, List.cons_append, List.nil_append, Option.toList_some, Option.toList_none, cz, ci2, true_and, and_true, and_self, true_or, or_true, nI_1, Nat.reduceAdd, Nat.reduceLT]
  · intro hno
    have ht : Ev sc d 85 2 [vR 0 0 0, vI v] [] X (.inr 0) X 1 := by
      refine ev_seg rfl ?_
      simp only [TE, sxs, sx, ldI, ldA, stI, stA, inc, gtF, ptF, ldX, stX, ldR, ldL, stL, dp1, dp2, Tm, kS0, kS1, kS2, kS3, kS4, kS5, kS6, kS7, kS8, kS9, kS10, kS11, kS12, kS13, kS14, kS15, kS16, kS17, kS18, kS19, kS20, kS21, kS22, kS23, kS24, kS25, kS26, kS27, kS28, kS30, kS31, kS32, kS33, kS34, kS35, kS36, kS37, kS38, kS39, kS40, kS41, kS42, kS43, kS51, kS52, kS53, List.getElem?_cons_zero, List.getElem?_cons_succ, List.set_cons_zero, List.set_cons_succ, List.length_cons, List.length_nil, List.drop_succ_cons, List.drop_zero, List.cons_append, List.nil_append, Option.toList_some, Option.toList_none, cz, ci2, true_and, and_true, and_self, true_or, or_true, nI_1, Nat.reduceAdd, Nat.reduceLT]
    rw [en85]
    refine ev_seg rfl ?_
    simp only [TE, sxs, sx, ldI, ldA, stI, stA, inc, gtF, ptF, ldX, stX, ldR, ldL, stL, dp1, dp2, Tm, kS0, kS1, kS2, kS3, kS4, kS5, kS6, kS7, kS8, kS9, kS10, kS11, kS12, kS13, kS14, kS15, kS16, kS17, kS18, kS19, kS20, kS21, kS22, kS23, kS24, kS25, kS26, kS27, kS28, kS30, kS31, kS32, kS33, kS34, kS35, kS36, kS37, kS38, kS39, kS40, kS41, kS42, kS43, kS51, kS52, kS53, List.getElem?_cons_zero, List.getElem?_cons_succ, List.set_cons_zero, List.set_cons_succ, List.length_cons, List.length_nil, List.drop_succ_cons, List.drop_zero, List.cons_append, List.nil_append, Option.toList_some, Option.toList_none, cz, ci2, true_and, and_true, and_self, true_or, or_true, nI_1, Nat.reduceAdd, Nat.reduceLT]
    refine ⟨fun _ => ht, fun w => ?_⟩
    refine ev_seg rfl ?_
    simp only [TE, sxs, sx, ldI, ldA, stI, stA, inc, gtF, ptF, ldX, stX, ldR, ldL, stL, dp1, dp2, Tm, kS0, kS1, kS2, kS3, kS4, kS5, kS6, kS7, kS8, kS9, kS10, kS11, kS12, kS13, kS14, kS15, kS16, kS17, kS18, kS19, kS20, kS21, kS22, kS23, kS24, kS25, kS26, kS27, kS28, kS30, kS31, kS32, kS33, kS34, kS35, kS36, kS37, kS38, kS39, kS40, kS41, kS42, kS43, kS51, kS52, kS53, List.getElem?_cons_zero, List.getElem?_cons_succ, List.set_cons_zero, List.set_cons_succ, List.length_cons, List.length_nil, List.drop_succ_cons, List.drop_zero, List.cons_append, List.nil_append, Option.toList_some, Option.toList_none, cz, ci2, true_and, and_true, and_self, true_or, or_true, nI_1, Nat.reduceAdd, Nat.reduceLT, h.c5]
    refine ⟨fun w2 => absurd (i_nat w w2 (by omega)) hno, fun _ => ht⟩
theorem s_groupNumber (h : CI X c bs nn lp lt) {T i : Nat} (hi : i < c) (h1 : bs i ≤ T) (h2 : T < bs i + nn i) : Ev sc (d + 1) 86 0 (ent 86 [vR 0 0 0, vI (nI T)]) [] X (.inl (some (.inl (nI i)))) X 0 := by
  have hc := h.hc
  have hb := h.b5 c (Nat.le_refl _)
  have hTc : T < bs c := by
    have := h.bm (i := i + 1) (j := c) (by omega) (Nat.le_refl _)
    rw [h.bS hi] at this
    omega
  have out : Ev sc (d + 1) 86 8 [vR 0 0 0, vI (nI T), vI (nI i)] [] X (.inl (some (.inl (nI i)))) X 0 := by
    refine ev_seg rfl ?_
    simp only [TE, sxs, sx, ldI, ldA, stI, stA, inc, gtF, ptF, ldX, stX, ldR, ldL, stL, dp1, dp2, Tm, kS0, kS1, kS2, kS3, kS4, kS5, kS6, kS7, kS8, kS9, kS10, kS11, kS12, kS13, kS14, kS15, kS16, kS17, kS18, kS19, kS20, kS21, kS22, kS23, kS24, kS25, kS26, kS27, kS28, kS30, kS31, kS32, kS33, kS34, kS35, kS36, kS37, kS38, kS39, kS40, kS41, kS42, kS43, kS51, kS52, kS53, List.getElem?_cons_zero, List.getElem?_cons_succ, List.set_cons_zero, List.set_cons_succ, List.length_cons, List.length_nil, List.drop_succ_cons, List.drop_zero, List.cons_append, List.nil_append, Option.toList_some, Option.toList_none, cz, ci2, true_and, and_true, and_self, true_or, or_true, nI_1, Nat.reduceAdd, Nat.reduceLT]
  have hbnd : ∀ j, j < c → bs j + nn j ≤ 30 := fun j hj => by
    have := h.b5 (j + 1) (by omega)
    rw [h.bS hj] at this
    omega
  have hht : ∀ j, j < c → (bI (X.1 2 0 (nI j) 4 ≤ nI T ∧ nI T < X.1 2 0 (nI j) 4 + X.1 2 0 (nI j) 5) = bI (bs j ≤ T ∧ T < bs j + nn j)) := by
    intro j hj
    have := hbnd j hj
    rw [h.g4 hj, h.g5 hj, nI_ad]
    by_cases hw : bs j ≤ T ∧ T < bs j + nn j
    · rw [bI_t hw, bI_t ⟨nleI hw.1 (by omega), nI_lt hw.2 (by omega)⟩]
    · rw [bI_f hw, bI_f ?_]
      rintro ⟨w1, w2⟩
      rw [zI_n, zI_n, zI_le (by omega) (by omega) (by omega) (by omega)] at w1
      rw [zI_n, zI_n, zI_lt (by omega) (by omega) (by omega) (by omega)] at w2
      exact hw ⟨by omega, by omega⟩
  have loop : ∀ p, p ≤ i → Ev sc (d + 1) 86 4 [vR 0 0 0, vI (nI T), vI (nI p)] [] X (.inl (some (.inl (nI i)))) X 0 := by
    apply loop_up
    · refine ev_seg rfl ?_
      simp only [TE, sxs, sx, ldI, ldA, stI, stA, inc, gtF, ptF, ldX, stX, ldR, ldL, stL, dp1, dp2, Tm, kS0, kS1, kS2, kS3, kS4, kS5, kS6, kS7, kS8, kS9, kS10, kS11, kS12, kS13, kS14, kS15, kS16, kS17, kS18, kS19, kS20, kS21, kS22, kS23, kS24, kS25, kS26, kS27, kS28, kS30, kS31, kS32, kS33, kS34, kS35, kS36, kS37, kS38, kS39, kS40, kS41, kS42, kS43, kS51, kS52, kS53, List.getElem?_cons_zero, List.getElem?_cons_succ, List.set_cons_zero, List.set_cons_succ, List.length_cons, List.length_nil, List.drop_succ_cons, List.drop_zero, List.cons_append, List.nil_append, Option.toList_some, Option.toList_none, cz, ci2, true_and, and_true, and_self, true_or, or_true, nI_1, Nat.reduceAdd, Nat.reduceLT, h.c5]
      rw [show nI c - 1 = nI (c - 1) from by rw [show c = c - 1 + 1 by omega]; exact nI_pr _]
      refine ⟨fun _ => out, fun w => ?_⟩
      have v1 : vp_in (nI i) 6 := vpn (by omega) (by decide)
      refine ev_seg rfl ?_
      simp only [TE, sxs, sx, ldI, ldA, stI, stA, inc, gtF, ptF, ldX, stX, ldR, ldL, stL, dp1, dp2, Tm, kS0, kS1, kS2, kS3, kS4, kS5, kS6, kS7, kS8, kS9, kS10, kS11, kS12, kS13, kS14, kS15, kS16, kS17, kS18, kS19, kS20, kS21, kS22, kS23, kS24, kS25, kS26, kS27, kS28, kS30, kS31, kS32, kS33, kS34, kS35, kS36, kS37, kS38, kS39, kS40, kS41, kS42, kS43, kS51, kS52, kS53, List.getElem?_cons_zero, List.getElem?_cons_succ, List.set_cons_zero, List.set_cons_succ, List.length_cons, List.length_nil, List.drop_succ_cons, List.drop_zero, List.cons_append, List.nil_append, Option.toList_some, Option.toList_none, cz, ci2, true_and, and_true, and_self, true_or, or_true, nI_1, Nat.reduceAdd, Nat.reduceLT]
      refine ⟨(by first | assumption | (and_intros <;> first | assumption | trivial | decide)), cv2 rfl rfl (by first | exact rfl | exact trivial) (s_hasTeam) ?_⟩
      rw [hht i hi, bI_t ⟨h1, h2⟩]
      refine ev_seg rfl ?_
      simp only [TE, sxs, sx, ldI, ldA, stI, stA, inc, gtF, ptF, ldX, stX, ldR, ldL, stL, dp1, dp2, Tm, kS0, kS1, kS2, kS3, kS4, kS5, kS6, kS7, kS8, kS9, kS10, kS11, kS12, kS13, kS14, kS15, kS16, kS17, kS18, kS19, kS20, kS21, kS22, kS23, kS24, kS25, kS26, kS27, kS28, kS30, kS31, kS32, kS33, kS34, kS35, kS36, kS37, kS38, kS39, kS40, kS41, kS42, kS43, kS51, kS52, kS53, List.getElem?_cons_zero, List.getElem?_cons_succ, List.set_cons_zero, List.set_cons_succ, List.length_cons, List.length_nil, List.drop_succ_cons, List.drop_zero, List.cons_append, List.nil_append, Option.toList_some, Option.toList_none, cz, ci2, true_and, and_true, and_self, true_or, or_true, nI_1, Nat.reduceAdd, Nat.reduceLT]
      refine ⟨fun _ => out, fun w => absurd (by decide) w⟩
    · intro p hp ih
      have v1 : vp_in (nI p) 6 := vpn (by omega) (by decide)
      refine ev_seg rfl ?_
      simp only [TE, sxs, sx, ldI, ldA, stI, stA, inc, gtF, ptF, ldX, stX, ldR, ldL, stL, dp1, dp2, Tm, kS0, kS1, kS2, kS3, kS4, kS5, kS6, kS7, kS8, kS9, kS10, kS11, kS12, kS13, kS14, kS15, kS16, kS17, kS18, kS19, kS20, kS21, kS22, kS23, kS24, kS25, kS26, kS27, kS28, kS30, kS31, kS32, kS33, kS34, kS35, kS36, kS37, kS38, kS39, kS40, kS41, kS42, kS43, kS51, kS52, kS53, List.getElem?_cons_zero, List.getElem?_cons_succ, List.set_cons_zero, List.set_cons_succ, List.length_cons, List.length_nil, List.drop_succ_cons, List.drop_zero, List.cons_append, List.nil_append, Option.toList_some, Option.toList_none, cz, ci2, true_and, and_true, and_self, true_or, or_true, nI_1, Nat.reduceAdd, Nat.reduceLT, h.c5]
      rw [show nI c - 1 = nI (c - 1) from by rw [show c = c - 1 + 1 by omega]; exact nI_pr _]
      refine ⟨fun w => absurd w (nle (by omega) (by omega)), fun _ => ?_⟩
      refine ev_seg rfl ?_
      simp only [TE, sxs, sx, ldI, ldA, stI, stA, inc, gtF, ptF, ldX, stX, ldR, ldL, stL, dp1, dp2, Tm, kS0, kS1, kS2, kS3, kS4, kS5, kS6, kS7, kS8, kS9, kS10, kS11, kS12, kS13, kS14, kS15, kS16, kS17, kS18, kS19, kS20, kS21, kS22, kS23, kS24, kS25, kS26, kS27, kS28, kS30, kS31, kS32, kS33, kS34, kS35, kS36, kS37, kS38, kS39, kS40, kS41, kS42, kS43, kS51, kS52, kS53, List.getElem?_cons_zero, List.getElem?_cons_succ, List.set_cons_zero, List.set_cons_succ, List.length_cons, List.length_nil, List.drop_succ_cons, List.drop_zero, List.cons_append, List.nil_append, Option.toList_some, Option.toList_none, cz, ci2, true_and, and_true, and_self, true_or, or_true, nI_1, Nat.reduceAdd, Nat.reduceLT]
      refine ⟨(by first | assumption | (and_intros <;> first | assumption | trivial | decide)), cv2 rfl rfl (by first | exact rfl | exact trivial) (s_hasTeam) ?_⟩
      have hno : ¬ (bs p ≤ T ∧ T < bs p + nn p) := by
        have := h.bm (i := p + 1) (j := i) (by omega) (by omega)
        rw [h.bS (by omega)] at this
        omega
      rw [hht p (by omega), bI_f hno]
      refine ev_seg rfl ?_
      simp only [TE, sxs, sx, ldI, ldA, stI, stA, inc, gtF, ptF, ldX, stX, ldR, ldL, stL, dp1, dp2, Tm, kS0, kS1, kS2, kS3, kS4, kS5, kS6, kS7, kS8, kS9, kS10, kS11, kS12, kS13, kS14, kS15, kS16, kS17, kS18, kS19, kS20, kS21, kS22, kS23, kS24, kS25, kS26, kS27, kS28, kS30, kS31, kS32, kS33, kS34, kS35, kS36, kS37, kS38, kS39, kS40, kS41, kS42, kS43, kS51, kS52, kS53, List.getElem?_cons_zero, List.getElem?_cons_succ, List.set_cons_zero, List.set_cons_succ, List.length_cons, List.length_nil, List.drop_succ_cons, List.drop_zero, List.cons_append, List.nil_append, Option.toList_some, Option.toList_none, cz, ci2, true_and, and_true, and_self, true_or, or_true, nI_1, Nat.reduceAdd, Nat.reduceLT]
      refine ⟨fun w => absurd trivial w, fun _ => ?_⟩
      refine ev_seg rfl ?_
      simp only [TE, sxs, sx, ldI, ldA, stI, stA, inc, gtF, ptF, ldX, stX, ldR, ldL, stL, dp1, dp2, Tm, kS0, kS1, kS2, kS3, kS4, kS5, kS6, kS7, kS8, kS9, kS10, kS11, kS12, kS13, kS14, kS15, kS16, kS17, kS18, kS19, kS20, kS21, kS22, kS23, kS24, kS25, kS26, kS27, kS28, kS30, kS31, kS32, kS33, kS34, kS35, kS36, kS37, kS38, kS39, kS40, kS41, kS42, kS43, kS51, kS52, kS53, List.getElem?_cons_zero, List.getElem?_cons_succ, List.set_cons_zero, List.set_cons_succ, List.length_cons, List.length_nil, List.drop_succ_cons, List.drop_zero, List.cons_append, List.nil_append, Option.toList_some, Option.toList_none, cz, ci2, true_and, and_true, and_self, true_or, or_true, nI_1, Nat.reduceAdd, Nat.reduceLT]
      exact ih
  rw [en86]
  refine ev_seg rfl ?_
  simp only [TE, sxs, sx, ldI, ldA, stI, stA, inc, gtF, ptF, ldX, stX, ldR, ldL, stL, dp1, dp2, Tm, kS0, kS1, kS2, kS3, kS4, kS5, kS6, kS7, kS8, kS9, kS10, kS11, kS12, kS13, kS14, kS15, kS16, kS17, kS18, kS19, kS20, kS21, kS22, kS23, kS24, kS25, kS26, kS27, kS28, kS30, kS31, kS32, kS33, kS34, kS35, kS36, kS37, kS38, kS39, kS40, kS41, kS42, kS43, kS51, kS52, kS53, List.getElem?_cons_zero, List.getElem?_cons_succ, List.set_cons_zero, List.set_cons_succ, List.length_cons, List.length_nil, List.drop_succ_cons, List.drop_zero, List.cons_append, List.nil_append, Option.toList_some, Option.toList_none, cz, ci2, true_and, and_true, and_self, true_or, or_true, nI_1, Nat.reduceAdd, Nat.reduceLT]
  refine ⟨fun w => absurd w (i_nlt (nleI (a := 0) (Nat.zero_le _) (by omega))), fun _ => ?_⟩
  refine ev_seg rfl ?_
  simp only [TE, sxs, sx, ldI, ldA, stI, stA, inc, gtF, ptF, ldX, stX, ldR, ldL, stL, dp1, dp2, Tm, kS0, kS1, kS2, kS3, kS4, kS5, kS6, kS7, kS8, kS9, kS10, kS11, kS12, kS13, kS14, kS15, kS16, kS17, kS18, kS19, kS20, kS21, kS22, kS23, kS24, kS25, kS26, kS27, kS28, kS30, kS31, kS32, kS33, kS34, kS35, kS36, kS37, kS38, kS39, kS40, kS41, kS42, kS43, kS51, kS52, kS53, List.getElem?_cons_zero, List.getElem?_cons_succ, List.set_cons_zero, List.set_cons_succ, List.length_cons, List.length_nil, List.drop_succ_cons, List.drop_zero, List.cons_append, List.nil_append, Option.toList_some, Option.toList_none, cz, ci2, true_and, and_true, and_self, true_or, or_true, nI_1, Nat.reduceAdd, Nat.reduceLT, h.c6]
  refine ⟨fun _ => ?_, fun w => absurd (nI_lt hTc (by omega)) w⟩
  refine ev_seg rfl ?_
  simp only [TE, sxs, sx, ldI, ldA, stI, stA, inc, gtF, ptF, ldX, stX, ldR, ldL, stL, dp1, dp2, Tm, kS0, kS1, kS2, kS3, kS4, kS5, kS6, kS7, kS8, kS9, kS10, kS11, kS12, kS13, kS14, kS15, kS16, kS17, kS18, kS19, kS20, kS21, kS22, kS23, kS24, kS25, kS26, kS27, kS28, kS30, kS31, kS32, kS33, kS34, kS35, kS36, kS37, kS38, kS39, kS40, kS41, kS42, kS43, kS51, kS52, kS53, List.getElem?_cons_zero, List.getElem?_cons_succ, List.set_cons_zero, List.set_cons_succ, List.length_cons, List.length_nil, List.drop_succ_cons, List.drop_zero, List.cons_append, List.nil_append, Option.toList_some, Option.toList_none, cz, ci2, true_and, and_true, and_self, true_or, or_true, nI_1, Nat.reduceAdd, Nat.reduceLT]
  exact loop 0 (Nat.zero_le _)
theorem s_groupNumberX (h : CI X c bs nn lp lt) {v : Int32} (hv : ¬ ∃ T, T < bs c ∧ v = nI T) : Ev sc (d + 1) 86 0 (ent 86 [vR 0 0 0, vI v]) [] X (.inr 0) X 1 := by
  have hc := h.hc
  have hb := h.b5 c (Nat.le_refl _)
  have ht : Ev sc (d + 1) 86 2 [vR 0 0 0, vI v, av0] [] X (.inr 0) X 1 := by
    refine ev_seg rfl ?_
    simp only [TE, sxs, sx, ldI, ldA, stI, stA, inc, gtF, ptF, ldX, stX, ldR, ldL, stL, dp1, dp2, Tm, kS0, kS1, kS2, kS3, kS4, kS5, kS6, kS7, kS8, kS9, kS10, kS11, kS12, kS13, kS14, kS15, kS16, kS17, kS18, kS19, kS20, kS21, kS22, kS23, kS24, kS25, kS26, kS27, kS28, kS30, kS31, kS32, kS33, kS34, kS35, kS36, kS37, kS38, kS39, kS40, kS41, kS42, kS43, kS51, kS52, kS53, List.getElem?_cons_zero, List.getElem?_cons_succ, List.set_cons_zero, List.set_cons_succ, List.length_cons, List.length_nil, List.drop_succ_cons, List.drop_zero, List.cons_append, List.nil_append, Option.toList_some, Option.toList_none, cz, ci2, true_and, and_true, and_self, true_or, or_true, nI_1, Nat.reduceAdd, Nat.reduceLT]
  rw [en86]
  refine ev_seg rfl ?_
  simp only [TE, sxs, sx, ldI, ldA, stI, stA, inc, gtF, ptF, ldX, stX, ldR, ldL, stL, dp1, dp2, Tm, kS0, kS1, kS2, kS3, kS4, kS5, kS6, kS7, kS8, kS9, kS10, kS11, kS12, kS13, kS14, kS15, kS16, kS17, kS18, kS19, kS20, kS21, kS22, kS23, kS24, kS25, kS26, kS27, kS28, kS30, kS31, kS32, kS33, kS34, kS35, kS36, kS37, kS38, kS39, kS40, kS41, kS42, kS43, kS51, kS52, kS53, List.getElem?_cons_zero, List.getElem?_cons_succ, List.set_cons_zero, List.set_cons_succ, List.length_cons, List.length_nil, List.drop_succ_cons, List.drop_zero, List.cons_append, List.nil_append, Option.toList_some, Option.toList_none, cz, ci2, true_and, and_true, and_self, true_or, or_true, nI_1, Nat.reduceAdd, Nat.reduceLT]
  refine ⟨fun _ => ht, fun w => ?_⟩
  refine ev_seg rfl ?_
  simp only [TE, sxs, sx, ldI, ldA, stI, stA, inc, gtF, ptF, ldX, stX, ldR, ldL, stL, dp1, dp2, Tm, kS0, kS1, kS2, kS3, kS4, kS5, kS6, kS7, kS8, kS9, kS10, kS11, kS12, kS13, kS14, kS15, kS16, kS17, kS18, kS19, kS20, kS21, kS22, kS23, kS24, kS25, kS26, kS27, kS28, kS30, kS31, kS32, kS33, kS34, kS35, kS36, kS37, kS38, kS39, kS40, kS41, kS42, kS43, kS51, kS52, kS53, List.getElem?_cons_zero, List.getElem?_cons_succ, List.set_cons_zero, List.set_cons_succ, List.length_cons, List.length_nil, List.drop_succ_cons, List.drop_zero, List.cons_append, List.nil_append, Option.toList_some, Option.toList_none, cz, ci2, true_and, and_true, and_self, true_or, or_true, nI_1, Nat.reduceAdd, Nat.reduceLT, h.c6]
  refine ⟨fun w2 => absurd (i_nat w w2 (by omega)) hv, fun _ => ht⟩
theorem s_groupWith (h : CI X c bs nn lp lt) {T i : Nat} (hi : i < c) (h1 : bs i ≤ T) (h2 : T < bs i + nn i) : Ev sc (d + 2) 87 0 (ent 87 [vR 0 0 0, vI (nI T)]) [] X (.inl (some (vR 2 0 (nI i)))) X 0 := by
  have v1 : vp_in (nI i) 6 := vpn (by have := h.hc; omega) (by decide)
  rw [en87]
  refine ev_seg rfl ?_
  simp only [TE, sxs, sx, ldI, ldA, stI, stA, inc, gtF, ptF, ldX, stX, ldR, ldL, stL, dp1, dp2, Tm, kS0, kS1, kS2, kS3, kS4, kS5, kS6, kS7, kS8, kS9, kS10, kS11, kS12, kS13, kS14, kS15, kS16, kS17, kS18, kS19, kS20, kS21, kS22, kS23, kS24, kS25, kS26, kS27, kS28, kS30, kS31, kS32, kS33, kS34, kS35, kS36, kS37, kS38, kS39, kS40, kS41, kS42, kS43, kS51, kS52, kS53, List.getElem?_cons_zero, List.getElem?_cons_succ, List.set_cons_zero, List.set_cons_succ, List.length_cons, List.length_nil, List.drop_succ_cons, List.drop_zero, List.cons_append, List.nil_append, Option.toList_some, Option.toList_none, cz, ci2, true_and, and_true, and_self, true_or, or_true, nI_1, Nat.reduceAdd, Nat.reduceLT]
  refine cv2 rfl rfl (by first | exact rfl | exact trivial) (s_groupNumber h hi h1 h2) ?_
  refine ev_seg rfl ?_
  simp only [TE, sxs, sx, ldI, ldA, stI, stA, inc, gtF, ptF, ldX, stX, ldR, ldL, stL, dp1, dp2, Tm, kS0, kS1, kS2, kS3, kS4, kS5, kS6, kS7, kS8, kS9, kS10, kS11, kS12, kS13, kS14, kS15, kS16, kS17, kS18, kS19, kS20, kS21, kS22, kS23, kS24, kS25, kS26, kS27, kS28, kS30, kS31, kS32, kS33, kS34, kS35, kS36, kS37, kS38, kS39, kS40, kS41, kS42, kS43, kS51, kS52, kS53, List.getElem?_cons_zero, List.getElem?_cons_succ, List.set_cons_zero, List.set_cons_succ, List.length_cons, List.length_nil, List.drop_succ_cons, List.drop_zero, List.cons_append, List.nil_append, Option.toList_some, Option.toList_none, cz, ci2, true_and, and_true, and_self, true_or, or_true, nI_1, Nat.reduceAdd, Nat.reduceLT]
  exact (by first | assumption | (and_intros <;> first | assumption | trivial | decide))
theorem s_groupWithX (h : CI X c bs nn lp lt) {v : Int32} (hv : ¬ ∃ T, T < bs c ∧ v = nI T) : Ev sc (d + 2) 87 0 (ent 87 [vR 0 0 0, vI v]) [] X (.inr 0) X 1 := by
  rw [en87]
  refine ev_seg rfl ?_
  simp only [TE, sxs, sx, ldI, ldA, stI, stA, inc, gtF, ptF, ldX, stX, ldR, ldL, stL, dp1, dp2, Tm, kS0, kS1, kS2, kS3, kS4, kS5, kS6, kS7, kS8, kS9, kS10, kS11, kS12, kS13, kS14, kS15, kS16, kS17, kS18, kS19, kS20, kS21, kS22, kS23, kS24, kS25, kS26, kS27, kS28, kS30, kS31, kS32, kS33, kS34, kS35, kS36, kS37, kS38, kS39, kS40, kS41, kS42, kS43, kS51, kS52, kS53, List.getElem?_cons_zero, List.getElem?_cons_succ, List.set_cons_zero, List.set_cons_succ, List.length_cons, List.length_nil, List.drop_succ_cons, List.drop_zero, List.cons_append, List.nil_append, Option.toList_some, Option.toList_none, cz, ci2, true_and, and_true, and_self, true_or, or_true, nI_1, Nat.reduceAdd, Nat.reduceLT]
  exact cl_thr rfl rfl (by first | exact rfl | exact trivial) rfl (s_groupNumberX h hv)
end Api
