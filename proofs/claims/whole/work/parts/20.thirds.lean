/-! the best thirds -/
section Thd
variable {sc : SC} {d : Nat} {g : Int32} {X : XT}
/-- a group that may be drawn -/
def GOK (X : XT) (g : Int32) (n : Nat) : Prop := X.1 2 0 g 5 = nI n ∧ 3 ≤ n ∧ n ≤ 5 ∧ ∀ a b, a < n → b < n → a ≠ b → ¬ fa (K4 X g n a) (K4 X g n b) 4 = 4
def PX (X : XT) (g : Int32) (n z : Nat) : Int32 := rsC (scC X g) n (fun _ => true) pF z - X.1 5 0 g (nI z)
/-- the place of a team -/
def PTX (X : XT) (g : Int32) (n : Nat) : Nat → Nat := PT (scC X g) n (K4 X g n) (PX X g n)
/-- the rule between two teams -/
def RTX (X : XT) (g : Int32) (n : Nat) : Nat → Nat → Nat := RT (scC X g) n (K4 X g n) (PX X g n)
theorem PX_fr {K : List Nat} {X' : XT} {n : Nat} (h : Fr K X X') (h4 : 4 ∉ K) (h5 : 5 ∉ K) : PX X' g n = PX X g n := by
  funext z
  unfold PX
  rw [scC_fr h h4, h.at 5 h5]
theorem GOK.fr {K : List Nat} {X' : XT} {n : Nat} (hG : GOK X g n) (h : Fr K X X') (h2 : 2 ∉ K) (h4 : 4 ∉ K) (h6 : 6 ∉ K) (h7 : 7 ∉ K) : GOK X' g n := by
  refine ⟨by rw [h.at 2 h2]; exact hG.1, hG.2.1, hG.2.2.1, ?_⟩
  rw [K4_fr h h4 h6 h7 h2]
  exact hG.2.2.2
theorem PTX_fr {K : List Nat} {X' : XT} {n : Nat} (h : Fr K X X') (h2 : 2 ∉ K) (h4 : 4 ∉ K) (h5 : 5 ∉ K) (h6 : 6 ∉ K) (h7 : 7 ∉ K) : PTX X' g n = PTX X g n := by
  unfold PTX
  rw [K4_fr h h4 h6 h7 h2, scC_fr h h4, PX_fr h h4 h5]
theorem RTX_fr {K : List Nat} {X' : XT} {n : Nat} (h : Fr K X X') (h2 : 2 ∉ K) (h4 : 4 ∉ K) (h5 : 5 ∉ K) (h6 : 6 ∉ K) (h7 : 7 ∉ K) : RTX X' g n = RTX X g n := by
  unfold RTX
  rw [K4_fr h h4 h6 h7 h2, scC_fr h h4, PX_fr h h4 h5]
/-- what drawing the table of a group gives -/
def DRW (X : XT) (g : Int32) (n : Nat) (Z : XT) (τ : Nat → Nat) : Prop := Fr [11, 12, 14] X Z ∧ OrdH Z n τ ∧ (∀ i j, i < n → j < n → τ i = τ j → i = j) ∧ (∀ i, i < n → i = PTX X g n (τ i)) ∧ (∀ i j, i < n → j < n → i ≠ j → RU Z (τ i) (τ j) = nI (RTX X g n (τ i) (τ j)))
theorem s_drawX {n : Nat} (hG : GOK X g n) : ∃ (Z : XT) (τ : Nat → Nat), Ev sc (d + 11) 43 0 (ent 43 [vR 8 0 0, vR 2 0 g]) [] X (.inl none) Z 0 ∧ DRW X g n Z τ := by
  obtain ⟨Z, τ, a1, a2, a3, a4, a5, a6⟩ := s_draw (sc := sc) (d := d) (S := scC X g) (K := K4 X g n) (P := PX X g n) hG.2.2.1 (by have := hG.2.1; omega) ⟨hG.1, rfl, rfl⟩ hG.2.2.2 (fun _ _ => rfl)
  exact ⟨Z, τ, a1, a2, a3, a4, a5, a6⟩
theorem DRW.onto {n : Nat} {Z : XT} {τ : Nat → Nat} (h : DRW X g n Z τ) {z : Nat} (hz : z < n) : ∃ i, i < n ∧ τ i = z ∧ PTX X g n z = i := by
  obtain ⟨i, a, b⟩ := fb_onto (f := τ) (fun i hi => (h.2.1 i hi).2) (fun i j p q w => by have := h.2.2.1 i j (by omega) q w; omega) hz
  have := h.2.2.2.1 i a
  rw [b] at this
  exact ⟨i, a, b, this.symm⟩
theorem DRW.lt {n : Nat} {Z : XT} {τ : Nat → Nat} (h : DRW X g n Z τ) {z : Nat} (hz : z < n) : PTX X g n z < n := by
  obtain ⟨i, a, b, c⟩ := h.onto hz
  omega
theorem DRW.at {n : Nat} {Z : XT} {τ : Nat → Nat} (h : DRW X g n Z τ) {z : Nat} (hz : z < n) : τ (PTX X g n z) = z := by
  obtain ⟨i, a, b, c⟩ := h.onto hz
  rw [c, b]
/-- the marks of a third; m: how many of the first count -/
def T5 (X : XT) (g : Int32) (n m t q : Nat) : Int32 := if q = 0 then rsC (scC X g) n (fun z => decide (PTX X g n z < m)) pF t - X.1 5 0 g (nI t) else if q = 1 then rsC (scC X g) n (fun z => decide (PTX X g n z < m)) dF t else if q = 2 then rsC (scC X g) n (fun z => decide (PTX X g n z < m)) gF9 t else if q = 3 then -X.1 6 0 g (nI t) else lotMk X g (nI t)
theorem T5_fr {K : List Nat} {X' : XT} {n m : Nat} (h : Fr K X X') (h2 : 2 ∉ K) (h4 : 4 ∉ K) (h5 : 5 ∉ K) (h6 : 6 ∉ K) (h7 : 7 ∉ K) : T5 X' g n m = T5 X g n m := by
  funext t q
  unfold T5 lotMk
  rw [PTX_fr h h2 h4 h5 h6 h7, scC_fr h h4, h.at 5 h5, h.at 6 h6, h.at 7 h7, h.at 2 h2]
def trow (X : XT) (g : Nat) : Nat → Int32 := fun c => X.1 18 0 (nI g) (nI c)
theorem trow_xs {a z c : Nat} {v : Int32} (hz : z < 6) (ha : a < 6) (hc : c < 5) (q : Nat) (hq : q < 5) : trow (xs X.1 18 0 (nI a) (nI c) v, X.2) z q = if z = a ∧ q = c then v else trow X z q := by
  show (if 18 = 18 ∧ (0 : Int32) = 0 ∧ nI z = nI a ∧ nI q = nI c then v else X.1 18 0 (nI z) (nI q)) = _
  have e1 : nI z = nI a ↔ z = a := ⟨fun e => nI_inj (by omega) (by omega) e, fun e => by rw [e]⟩
  have e2 : nI q = nI c ↔ q = c := ⟨fun e => nI_inj (by omega) (by omega) e, fun e => by rw [e]⟩
  simp only [e1, e2, true_and]
  rfl
theorem trow_fr {K : List Nat} {X' : XT} (h : Fr K X X') (hk : 18 ∉ K) (z : Nat) : trow X' z = trow X z := by
  funext c
  exact h.at 18 hk _ _ _
/-- the size of the smallest group -/
def mnS (nn : Nat → Nat) : Nat → Nat
  | 0 => 5
  | k + 1 => min (mnS nn k) (nn k)
theorem mnS_le (nn : Nat → Nat) : ∀ k, mnS nn k ≤ 5
  | 0 => Nat.le_refl _
  | k + 1 => Nat.le_trans (Nat.min_le_left _ _) (mnS_le nn k)
theorem mnS_at (nn : Nat → Nat) {i : Nat} : ∀ {k}, i < k → mnS nn k ≤ nn i
  | k + 1, h => by
    by_cases hi : i = k
    · rw [hi]; exact Nat.min_le_right _ _
    · exact Nat.le_trans (Nat.min_le_left _ _) (mnS_at nn (by omega))
theorem s_smallestSize {c : Nat} {nn : Nat → Nat} (hc : c ≤ 6) (hn : ∀ i, i < c → X.1 2 0 (nI i) 5 = nI (nn i) ∧ nn i ≤ 5) : Ev sc (d + 1) 57 0 (ent 57 [vR 1 0 0, vI (nI c)]) [] X (.inl (some (.inl (nI (mnS nn c))))) X 0 := by
  have loop : ∀ p, p ≤ c → Ev sc (d + 1) 57 1 [vR 1 0 0, vI (nI c), vI (nI (mnS nn p)), vI (nI p)] [] X (.inl (some (.inl (nI (mnS nn c))))) X 0 := by
    apply loop_up
    · refine ev_seg rfl ?_
      simp only [TE, sxs, sx, ldI, ldA, stI, stA, inc, gtF, ptF, ldX, stX, ldR, ldL, stL, dp1, dp2, Tm, kS0, kS1, kS2, kS3, kS4, kS5, kS6, kS7, kS8, kS9, kS10, kS11, kS12, kS13, kS14, kS15, kS16, kS17, kS18, kS19, kS20, kS21, kS22, kS23, kS24, kS25, kS26, kS27, kS28, kS30, kS31, kS32, kS33, kS34, kS35, kS36, kS37, kS38, kS39, kS40, kS41, kS42, kS43, kS51, kS52, kS53, List.getElem?_cons_zero, List.getElem?_cons_succ, List.set_cons_zero, List.set_cons_succ, List.length_cons, List.length_nil, List.drop_succ_cons, List.drop_zero, List.cons_append, List.nil_append, Option.toList_some, Option.toList_none, cz, ci2, true_and, and_true, and_self, true_or, or_true, nI_1, Nat.reduceAdd, Nat.reduceLT]
      refine ⟨fun _ => ?_, fun h => absurd (nleI (Nat.le_refl _) (by omega)) h⟩
      refine ev_seg rfl ?_
      simp only [TE, sxs, sx, ldI, ldA, stI, stA, inc, gtF, ptF, ldX, stX, ldR, ldL, stL, dp1, dp2, Tm, kS0, kS1, kS2, kS3, kS4, kS5, kS6, kS7, kS8, kS9, kS10, kS11, kS12, kS13, kS14, kS15, kS16, kS17, kS18, kS19, kS20, kS21, kS22, kS23, kS24, kS25, kS26, kS27, kS28, kS30, kS31, kS32, kS33, kS34, kS35, kS36, kS37, kS38, kS39, kS40, kS41, kS42, kS43, kS51, kS52, kS53, List.getElem?_cons_zero, List.getElem?_cons_succ, List.set_cons_zero, List.set_cons_succ, List.length_cons, List.length_nil, List.drop_succ_cons, List.drop_zero, List.cons_append, List.nil_append, Option.toList_some, Option.toList_none, cz, ci2, true_and, and_true, and_self, true_or, or_true, nI_1, Nat.reduceAdd, Nat.reduceLT]
    · intro p hp ih
      have hv : vp_in (nI p) 6 := vpn (by omega) (by decide)
      obtain ⟨h1, h2⟩ := hn p hp
      have hm := mnS_le nn p
      have e1 : (if nI (nn p) < nI (mnS nn p) then nI (nn p) else nI (mnS nn p)) = nI (mnS nn (p + 1)) := by
        show _ = nI (min (mnS nn p) (nn p))
        by_cases h : nn p < mnS nn p
        · rw [if_pos (nI_lt h (by omega)), Nat.min_eq_right (by omega)]
        · rw [if_neg (i_nlt (nleI (by omega) (by omega))), Nat.min_eq_left (by omega)]
      refine ev_seg rfl ?_
      simp only [TE, sxs, sx, ldI, ldA, stI, stA, inc, gtF, ptF, ldX, stX, ldR, ldL, stL, dp1, dp2, Tm, kS0, kS1, kS2, kS3, kS4, kS5, kS6, kS7, kS8, kS9, kS10, kS11, kS12, kS13, kS14, kS15, kS16, kS17, kS18, kS19, kS20, kS21, kS22, kS23, kS24, kS25, kS26, kS27, kS28, kS30, kS31, kS32, kS33, kS34, kS35, kS36, kS37, kS38, kS39, kS40, kS41, kS42, kS43, kS51, kS52, kS53, List.getElem?_cons_zero, List.getElem?_cons_succ, List.set_cons_zero, List.set_cons_succ, List.length_cons, List.length_nil, List.drop_succ_cons, List.drop_zero, List.cons_append, List.nil_append, Option.toList_some, Option.toList_none, cz, ci2, true_and, and_true, and_self, true_or, or_true, nI_1, Nat.reduceAdd, Nat.reduceLT]
      refine ⟨fun h => absurd h (nle hp (by omega)), fun _ => ?_⟩
      refine ev_seg rfl ?_
      simp only [TE, sxs, sx, ldI, ldA, stI, stA, inc, gtF, ptF, ldX, stX, ldR, ldL, stL, dp1, dp2, Tm, kS0, kS1, kS2, kS3, kS4, kS5, kS6, kS7, kS8, kS9, kS10, kS11, kS12, kS13, kS14, kS15, kS16, kS17, kS18, kS19, kS20, kS21, kS22, kS23, kS24, kS25, kS26, kS27, kS28, kS30, kS31, kS32, kS33, kS34, kS35, kS36, kS37, kS38, kS39, kS40, kS41, kS42, kS43, kS51, kS52, kS53, List.getElem?_cons_zero, List.getElem?_cons_succ, List.set_cons_zero, List.set_cons_succ, List.length_cons, List.length_nil, List.drop_succ_cons, List.drop_zero, List.cons_append, List.nil_append, Option.toList_some, Option.toList_none, cz, ci2, true_and, and_true, and_self, true_or, or_true, nI_1, Nat.reduceAdd, Nat.reduceLT]
      refine ⟨(by first | assumption | (and_intros <;> first | assumption | trivial | decide)), cv1 rfl rfl (by first | exact rfl | exact trivial) (s_size) ?_⟩
      rw [h1]
      refine ev_seg rfl ?_
      simp only [TE, sxs, sx, ldI, ldA, stI, stA, inc, gtF, ptF, ldX, stX, ldR, ldL, stL, dp1, dp2, Tm, kS0, kS1, kS2, kS3, kS4, kS5, kS6, kS7, kS8, kS9, kS10, kS11, kS12, kS13, kS14, kS15, kS16, kS17, kS18, kS19, kS20, kS21, kS22, kS23, kS24, kS25, kS26, kS27, kS28, kS30, kS31, kS32, kS33, kS34, kS35, kS36, kS37, kS38, kS39, kS40, kS41, kS42, kS43, kS51, kS52, kS53, List.getElem?_cons_zero, List.getElem?_cons_succ, List.set_cons_zero, List.set_cons_succ, List.length_cons, List.length_nil, List.drop_succ_cons, List.drop_zero, List.cons_append, List.nil_append, Option.toList_some, Option.toList_none, cz, ci2, true_and, and_true, and_self, true_or, or_true, nI_1, Nat.reduceAdd, Nat.reduceLT, e1]
      exact ⟨(by first | assumption | (and_intros <;> first | assumption | trivial | decide)), ih⟩
  rw [en57]
  refine ev_seg rfl ?_
  simp only [TE, sxs, sx, ldI, ldA, stI, stA, inc, gtF, ptF, ldX, stX, ldR, ldL, stL, dp1, dp2, Tm, kS0, kS1, kS2, kS3, kS4, kS5, kS6, kS7, kS8, kS9, kS10, kS11, kS12, kS13, kS14, kS15, kS16, kS17, kS18, kS19, kS20, kS21, kS22, kS23, kS24, kS25, kS26, kS27, kS28, kS30, kS31, kS32, kS33, kS34, kS35, kS36, kS37, kS38, kS39, kS40, kS41, kS42, kS43, kS51, kS52, kS53, List.getElem?_cons_zero, List.getElem?_cons_succ, List.set_cons_zero, List.set_cons_succ, List.length_cons, List.length_nil, List.drop_succ_cons, List.drop_zero, List.cons_append, List.nil_append, Option.toList_some, Option.toList_none, cz, ci2, true_and, and_true, and_self, true_or, or_true, nI_1, Nat.reduceAdd, Nat.reduceLT]
  exact loop 0 (Nat.zero_le _)
theorem s_pointsOfThird {a : Int32} (ha : vp_in a 6) : Ev sc (d + 1) 55 0 (ent 55 [vR 15 0 0, vI a]) [] X (.inl (some (.inl (X.1 18 0 a 0)))) X 0 := by
  have c0 : vp_in 0 5 := vpn (j := 0) (by decide) (by decide)
  rw [en55]
  refine ev_seg rfl ?_
  simp only [TE, sxs, sx, ldI, ldA, stI, stA, inc, gtF, ptF, ldX, stX, ldR, ldL, stL, dp1, dp2, Tm, kS0, kS1, kS2, kS3, kS4, kS5, kS6, kS7, kS8, kS9, kS10, kS11, kS12, kS13, kS14, kS15, kS16, kS17, kS18, kS19, kS20, kS21, kS22, kS23, kS24, kS25, kS26, kS27, kS28, kS30, kS31, kS32, kS33, kS34, kS35, kS36, kS37, kS38, kS39, kS40, kS41, kS42, kS43, kS51, kS52, kS53, List.getElem?_cons_zero, List.getElem?_cons_succ, List.set_cons_zero, List.set_cons_succ, List.length_cons, List.length_nil, List.drop_succ_cons, List.drop_zero, List.cons_append, List.nil_append, Option.toList_some, Option.toList_none, cz, ci2, true_and, and_true, and_self, true_or, or_true, nI_1, Nat.reduceAdd, Nat.reduceLT]
  refine cv3 rfl rfl (by first | exact rfl | exact trivial) (s_at16 ha c0) ?_
  refine ev_seg rfl ?_
  simp only [TE, sxs, sx, ldI, ldA, stI, stA, inc, gtF, ptF, ldX, stX, ldR, ldL, stL, dp1, dp2, Tm, kS0, kS1, kS2, kS3, kS4, kS5, kS6, kS7, kS8, kS9, kS10, kS11, kS12, kS13, kS14, kS15, kS16, kS17, kS18, kS19, kS20, kS21, kS22, kS23, kS24, kS25, kS26, kS27, kS28, kS30, kS31, kS32, kS33, kS34, kS35, kS36, kS37, kS38, kS39, kS40, kS41, kS42, kS43, kS51, kS52, kS53, List.getElem?_cons_zero, List.getElem?_cons_succ, List.set_cons_zero, List.set_cons_succ, List.length_cons, List.length_nil, List.drop_succ_cons, List.drop_zero, List.cons_append, List.nil_append, Option.toList_some, Option.toList_none, cz, ci2, true_and, and_true, and_self, true_or, or_true, nI_1, Nat.reduceAdd, Nat.reduceLT]
theorem s_isB16 {z t : Nat} (hz : z < 6) (ht : t < 6) : Ev sc (d + 1) 31 0 (ent 31 [vR 16 0 0, vI (nI z), vI (nI t), vI 5]) [] X (.inl (some (.inl (bI (betB (trow X z) (trow X t) 5 = true))))) X 0 := by
  haveI : Decidable (bet (fun c => X.1 18 0 (nI z) (nI c)) (fun c => X.1 18 0 (nI t) (nI c)) 5) := betD _ _ _
  have h := s_isBetter16 (sc := sc) (d := d) (X := X) (m := 5) (vpn hz (by decide)) (vpn ht (by decide)) (by decide)
  have e1 : bI (bet (fun c => X.1 18 0 (nI z) (nI c)) (fun c => X.1 18 0 (nI t) (nI c)) 5) = bI (betB (trow X z) (trow X t) 5 = true) := by
    by_cases hb : bet (trow X z) (trow X t) 5
    · rw [bI_t (show bet (fun c => X.1 18 0 (nI z) (nI c)) (fun c => X.1 18 0 (nI t) (nI c)) 5 from hb), bI_t (betB_iff.mpr hb)]
    · rw [bI_f (show ¬ bet (fun c => X.1 18 0 (nI z) (nI c)) (fun c => X.1 18 0 (nI t) (nI c)) 5 from hb), bI_f (by rw [betB_no hb]; decide)]
  rw [e1] at h
  exact h
/-- how many thirds are better -/
theorem s_betterThan {c t : Nat} (hc : c ≤ 6) (ht : t < 6) : Ev sc (d + 2) 56 0 (ent 56 [vR 15 0 0, vI (nI t), vI (nI c)]) [] X (.inl (some (.inl (nI (ct (fun z => betB (trow X z) (trow X t) 5) c))))) X 0 := by
  have loop : ∀ p, p ≤ c → Ev sc (d + 2) 56 1 [vR 15 0 0, vI (nI t), vI (nI c), vI (nI (ct (fun z => betB (trow X z) (trow X t) 5) p)), vI (nI p)] [] X (.inl (some (.inl (nI (ct (fun z => betB (trow X z) (trow X t) 5) c))))) X 0 := by
    apply loop_up
    · refine ev_seg rfl ?_
      simp only [TE, sxs, sx, ldI, ldA, stI, stA, inc, gtF, ptF, ldX, stX, ldR, ldL, stL, dp1, dp2, Tm, kS0, kS1, kS2, kS3, kS4, kS5, kS6, kS7, kS8, kS9, kS10, kS11, kS12, kS13, kS14, kS15, kS16, kS17, kS18, kS19, kS20, kS21, kS22, kS23, kS24, kS25, kS26, kS27, kS28, kS30, kS31, kS32, kS33, kS34, kS35, kS36, kS37, kS38, kS39, kS40, kS41, kS42, kS43, kS51, kS52, kS53, List.getElem?_cons_zero, List.getElem?_cons_succ, List.set_cons_zero, List.set_cons_succ, List.length_cons, List.length_nil, List.drop_succ_cons, List.drop_zero, List.cons_append, List.nil_append, Option.toList_some, Option.toList_none, cz, ci2, true_and, and_true, and_self, true_or, or_true, nI_1, Nat.reduceAdd, Nat.reduceLT]
      refine ⟨fun _ => ?_, fun h => absurd (nleI (Nat.le_refl _) (by omega)) h⟩
      refine ev_seg rfl ?_
      simp only [TE, sxs, sx, ldI, ldA, stI, stA, inc, gtF, ptF, ldX, stX, ldR, ldL, stL, dp1, dp2, Tm, kS0, kS1, kS2, kS3, kS4, kS5, kS6, kS7, kS8, kS9, kS10, kS11, kS12, kS13, kS14, kS15, kS16, kS17, kS18, kS19, kS20, kS21, kS22, kS23, kS24, kS25, kS26, kS27, kS28, kS30, kS31, kS32, kS33, kS34, kS35, kS36, kS37, kS38, kS39, kS40, kS41, kS42, kS43, kS51, kS52, kS53, List.getElem?_cons_zero, List.getElem?_cons_succ, List.set_cons_zero, List.set_cons_succ, List.length_cons, List.length_nil, List.drop_succ_cons, List.drop_zero, List.cons_append, List.nil_append, Option.toList_some, Option.toList_none, cz, ci2, true_and, and_true, and_self, true_or, or_true, nI_1, Nat.reduceAdd, Nat.reduceLT]
    · intro p hp ih
      refine ev_seg rfl ?_
      simp only [TE, sxs, sx, ldI, ldA, stI, stA, inc, gtF, ptF, ldX, stX, ldR, ldL, stL, dp1, dp2, Tm, kS0, kS1, kS2, kS3, kS4, kS5, kS6, kS7, kS8, kS9, kS10, kS11, kS12, kS13, kS14, kS15, kS16, kS17, kS18, kS19, kS20, kS21, kS22, kS23, kS24, kS25, kS26, kS27, kS28, kS30, kS31, kS32, kS33, kS34, kS35, kS36, kS37, kS38, kS39, kS40, kS41, kS42, kS43, kS51, kS52, kS53, List.getElem?_cons_zero, List.getElem?_cons_succ, List.set_cons_zero, List.set_cons_succ, List.length_cons, List.length_nil, List.drop_succ_cons, List.drop_zero, List.cons_append, List.nil_append, Option.toList_some, Option.toList_none, cz, ci2, true_and, and_true, and_self, true_or, or_true, nI_1, Nat.reduceAdd, Nat.reduceLT]
      refine ⟨fun h => absurd h (nle hp (by omega)), fun _ => ?_⟩
      refine ev_seg rfl ?_
      simp only [TE, sxs, sx, ldI, ldA, stI, stA, inc, gtF, ptF, ldX, stX, ldR, ldL, stL, dp1, dp2, Tm, kS0, kS1, kS2, kS3, kS4, kS5, kS6, kS7, kS8, kS9, kS10, kS11, kS12, kS13, kS14, kS15, kS16, kS17, kS18, kS19, kS20, kS21, kS22, kS23, kS24, kS25, kS26, kS27, kS28, kS30, kS31, kS32, kS33, kS34, kS35, kS36, kS37, kS38, kS39, kS40, kS41, kS42, kS43, kS51, kS52, kS53, List.getElem?_cons_zero, List.getElem?_cons_succ, List.set_cons_zero, List.set_cons_succ, List.length_cons, List.length_nil, List.drop_succ_cons, List.drop_zero, List.cons_append, List.nil_append, Option.toList_some, Option.toList_none, cz, ci2, true_and, and_true, and_self, true_or, or_true, nI_1, Nat.reduceAdd, Nat.reduceLT]
      refine cv4 rfl rfl (by first | exact rfl | exact trivial) (s_isB16 (by omega) ht) ?_
      cases hb : betB (trow X p) (trow X t) 5 with
      | true =>
        have e1 : ct (fun z => betB (trow X z) (trow X t) 5) (p + 1) = ct (fun z => betB (trow X z) (trow X t) 5) p + 1 := by
          show ct _ p + (if betB (trow X p) (trow X t) 5 = true then 1 else 0) = _
          rw [hb]
          rfl
        rw [e1] at ih
        rw [bI_t rfl]
        refine ev_seg rfl ?_
        simp only [TE, sxs, sx, ldI, ldA, stI, stA, inc, gtF, ptF, ldX, stX, ldR, ldL, stL, dp1, dp2, Tm, kS0, kS1, kS2, kS3, kS4, kS5, kS6, kS7, kS8, kS9, kS10, kS11, kS12, kS13, kS14, kS15, kS16, kS17, kS18, kS19, kS20, kS21, kS22, kS23, kS24, kS25, kS26, kS27, kS28, kS30, kS31, kS32, kS33, kS34, kS35, kS36, kS37, kS38, kS39, kS40, kS41, kS42, kS43, kS51, kS52, kS53, List.getElem?_cons_zero, List.getElem?_cons_succ, List.set_cons_zero, List.set_cons_succ, List.length_cons, List.length_nil, List.drop_succ_cons, List.drop_zero, List.cons_append, List.nil_append, Option.toList_some, Option.toList_none, cz, ci2, true_and, and_true, and_self, true_or, or_true, nI_1, Nat.reduceAdd, Nat.reduceLT]
        refine ⟨fun h => absurd h (by decide), fun _ => ?_⟩
        refine ev_seg rfl ?_
        simp only [TE, sxs, sx, ldI, ldA, stI, stA, inc, gtF, ptF, ldX, stX, ldR, ldL, stL, dp1, dp2, Tm, kS0, kS1, kS2, kS3, kS4, kS5, kS6, kS7, kS8, kS9, kS10, kS11, kS12, kS13, kS14, kS15, kS16, kS17, kS18, kS19, kS20, kS21, kS22, kS23, kS24, kS25, kS26, kS27, kS28, kS30, kS31, kS32, kS33, kS34, kS35, kS36, kS37, kS38, kS39, kS40, kS41, kS42, kS43, kS51, kS52, kS53, List.getElem?_cons_zero, List.getElem?_cons_succ, List.set_cons_zero, List.set_cons_succ, List.length_cons, List.length_nil, List.drop_succ_cons, List.drop_zero, List.cons_append, List.nil_append, Option.toList_some, Option.toList_none, cz, ci2, true_and, and_true, and_self, true_or, or_true, nI_1, Nat.reduceAdd, Nat.reduceLT]
        refine ev_seg rfl ?_
        simp only [TE, sxs, sx, ldI, ldA, stI, stA, inc, gtF, ptF, ldX, stX, ldR, ldL, stL, dp1, dp2, Tm, kS0, kS1, kS2, kS3, kS4, kS5, kS6, kS7, kS8, kS9, kS10, kS11, kS12, kS13, kS14, kS15, kS16, kS17, kS18, kS19, kS20, kS21, kS22, kS23, kS24, kS25, kS26, kS27, kS28, kS30, kS31, kS32, kS33, kS34, kS35, kS36, kS37, kS38, kS39, kS40, kS41, kS42, kS43, kS51, kS52, kS53, List.getElem?_cons_zero, List.getElem?_cons_succ, List.set_cons_zero, List.set_cons_succ, List.length_cons, List.length_nil, List.drop_succ_cons, List.drop_zero, List.cons_append, List.nil_append, Option.toList_some, Option.toList_none, cz, ci2, true_and, and_true, and_self, true_or, or_true, nI_1, Nat.reduceAdd, Nat.reduceLT]
        exact ih
      | false =>
        have e1 : ct (fun z => betB (trow X z) (trow X t) 5) (p + 1) = ct (fun z => betB (trow X z) (trow X t) 5) p := by
          show ct _ p + (if betB (trow X p) (trow X t) 5 = true then 1 else 0) = _
          rw [hb]
          rfl
        rw [e1] at ih
        rw [bI_f (by decide)]
        refine ev_seg rfl ?_
        simp only [TE, sxs, sx, ldI, ldA, stI, stA, inc, gtF, ptF, ldX, stX, ldR, ldL, stL, dp1, dp2, Tm, kS0, kS1, kS2, kS3, kS4, kS5, kS6, kS7, kS8, kS9, kS10, kS11, kS12, kS13, kS14, kS15, kS16, kS17, kS18, kS19, kS20, kS21, kS22, kS23, kS24, kS25, kS26, kS27, kS28, kS30, kS31, kS32, kS33, kS34, kS35, kS36, kS37, kS38, kS39, kS40, kS41, kS42, kS43, kS51, kS52, kS53, List.getElem?_cons_zero, List.getElem?_cons_succ, List.set_cons_zero, List.set_cons_succ, List.length_cons, List.length_nil, List.drop_succ_cons, List.drop_zero, List.cons_append, List.nil_append, Option.toList_some, Option.toList_none, cz, ci2, true_and, and_true, and_self, true_or, or_true, nI_1, Nat.reduceAdd, Nat.reduceLT]
        refine ⟨fun _ => ?_, fun h => absurd trivial h⟩
        refine ev_seg rfl ?_
        simp only [TE, sxs, sx, ldI, ldA, stI, stA, inc, gtF, ptF, ldX, stX, ldR, ldL, stL, dp1, dp2, Tm, kS0, kS1, kS2, kS3, kS4, kS5, kS6, kS7, kS8, kS9, kS10, kS11, kS12, kS13, kS14, kS15, kS16, kS17, kS18, kS19, kS20, kS21, kS22, kS23, kS24, kS25, kS26, kS27, kS28, kS30, kS31, kS32, kS33, kS34, kS35, kS36, kS37, kS38, kS39, kS40, kS41, kS42, kS43, kS51, kS52, kS53, List.getElem?_cons_zero, List.getElem?_cons_succ, List.set_cons_zero, List.set_cons_succ, List.length_cons, List.length_nil, List.drop_succ_cons, List.drop_zero, List.cons_append, List.nil_append, Option.toList_some, Option.toList_none, cz, ci2, true_and, and_true, and_self, true_or, or_true, nI_1, Nat.reduceAdd, Nat.reduceLT]
        exact ih
  rw [en56]
  refine ev_seg rfl ?_
  simp only [TE, sxs, sx, ldI, ldA, stI, stA, inc, gtF, ptF, ldX, stX, ldR, ldL, stL, dp1, dp2, Tm, kS0, kS1, kS2, kS3, kS4, kS5, kS6, kS7, kS8, kS9, kS10, kS11, kS12, kS13, kS14, kS15, kS16, kS17, kS18, kS19, kS20, kS21, kS22, kS23, kS24, kS25, kS26, kS27, kS28, kS30, kS31, kS32, kS33, kS34, kS35, kS36, kS37, kS38, kS39, kS40, kS41, kS42, kS43, kS51, kS52, kS53, List.getElem?_cons_zero, List.getElem?_cons_succ, List.set_cons_zero, List.set_cons_succ, List.length_cons, List.length_nil, List.drop_succ_cons, List.drop_zero, List.cons_append, List.nil_append, Option.toList_some, Option.toList_none, cz, ci2, true_and, and_true, and_self, true_or, or_true, nI_1, Nat.reduceAdd, Nat.reduceLT]
  exact loop 0 (Nat.zero_le _)
/-- the marks of all thirds -/
theorem s_measure {c : Nat} {nn : Nat → Nat} (hc : c ≤ 6) (hG : ∀ i, i < c → GOK X (nI i) (nn i)) : ∃ Z, Ev sc (d + 12) 54 0 (ent 54 [vR 15 0 0, vR 1 0 0, vI (nI c), vR 8 0 0]) [] X (.inl none) Z 0 ∧ Fr [11, 12, 14, 18] X Z ∧
    ∀ i, i < c → ∃ t, t < nn i ∧ PTX X (nI i) (nn i) t = 2 ∧ ∀ q, q < 5 → trow Z i q = T5 X (nI i) (nn i) (mnS nn c) t q := by
  have hm9 : mnS nn c ≤ 5 := mnS_le nn c
  have loop : ∀ p, p ≤ c → ∀ (X1 : XT) (z6 z7 z8 z9 : AV), Fr [11, 12, 14, 18] X X1 → (∀ i, i < p → ∃ t, t < nn i ∧ PTX X (nI i) (nn i) t = 2 ∧ ∀ q, q < 5 → trow X1 i q = T5 X (nI i) (nn i) (mnS nn c) t q) →
      ∃ Z, Ev sc (d + 12) 54 2 [vR 15 0 0, vR 1 0 0, vI (nI c), vR 8 0 0, vI (nI (mnS nn c)), vI (nI p), z6, z7, z8, z9] [] X1 (.inl none) Z 0 ∧ Fr [11, 12, 14, 18] X Z ∧
      ∀ i, i < c → ∃ t, t < nn i ∧ PTX X (nI i) (nn i) t = 2 ∧ ∀ q, q < 5 → trow Z i q = T5 X (nI i) (nn i) (mnS nn c) t q := by
    apply loop_up
    · intro X1 z6 z7 z8 z9 hf h1
      refine ⟨X1, ?_, hf, h1⟩
      refine ev_seg rfl ?_
      simp only [TE, sxs, sx, ldI, ldA, stI, stA, inc, gtF, ptF, ldX, stX, ldR, ldL, stL, dp1, dp2, Tm, kS0, kS1, kS2, kS3, kS4, kS5, kS6, kS7, kS8, kS9, kS10, kS11, kS12, kS13, kS14, kS15, kS16, kS17, kS18, kS19, kS20, kS21, kS22, kS23, kS24, kS25, kS26, kS27, kS28, kS30, kS31, kS32, kS33, kS34, kS35, kS36, kS37, kS38, kS39, kS40, kS41, kS42, kS43, kS51, kS52, kS53, List.getElem?_cons_zero, List.getElem?_cons_succ, List.set_cons_zero, List.set_cons_succ, List.length_cons, List.length_nil, List.drop_succ_cons, List.drop_zero, List.cons_append, List.nil_append, Option.toList_some, Option.toList_none, cz, ci2, true_and, and_true, and_self, true_or, or_true, nI_1, Nat.reduceAdd, Nat.reduceLT]
      refine ⟨fun _ => ?_, fun h => absurd (nleI (Nat.le_refl _) (by omega)) h⟩
      refine ev_seg rfl ?_
      simp only [TE, sxs, sx, ldI, ldA, stI, stA, inc, gtF, ptF, ldX, stX, ldR, ldL, stL, dp1, dp2, Tm, kS0, kS1, kS2, kS3, kS4, kS5, kS6, kS7, kS8, kS9, kS10, kS11, kS12, kS13, kS14, kS15, kS16, kS17, kS18, kS19, kS20, kS21, kS22, kS23, kS24, kS25, kS26, kS27, kS28, kS30, kS31, kS32, kS33, kS34, kS35, kS36, kS37, kS38, kS39, kS40, kS41, kS42, kS43, kS51, kS52, kS53, List.getElem?_cons_zero, List.getElem?_cons_succ, List.set_cons_zero, List.set_cons_succ, List.length_cons, List.length_nil, List.drop_succ_cons, List.drop_zero, List.cons_append, List.nil_append, Option.toList_some, Option.toList_none, cz, ci2, true_and, and_true, and_self, true_or, or_true, nI_1, Nat.reduceAdd, Nat.reduceLT]
    · intro p hp ih X1 z6 z7 z8 z9 hf h1
      have hG1 : GOK X1 (nI p) (nn p) := (hG p hp).fr hf (by decide) (by decide) (by decide) (by decide)
      have n3 := hG1.2.1
      have n5 := hG1.2.2.1
      have hmn := mnS_at nn hp
      obtain ⟨X2, τ, b1, b2⟩ := s_drawX (sc := sc) (d := d) hG1
      have hT : PTX X1 (nI p) (nn p) = PTX X (nI p) (nn p) := PTX_fr hf (by decide) (by decide) (by decide) (by decide) (by decide)
      have f2 : Fr [11, 12, 14, 18] X X2 := hf.tr (b2.1.mo (by decide))
      obtain ⟨o1, o2⟩ := b2.2.1 2 (by omega)
      have hpt : PTX X (nI p) (nn p) (τ 2) = 2 := by
        rw [← hT]
        exact (b2.2.2.2.1 2 (by omega)).symm
      have v1 : vp_in (nI p) 6 := vpn (by omega) (by decide)
      have vt : vp_in (nI (τ 2)) 5 := vpn (by omega) (by decide)
      have v2 : vp_in 2 5 := vpn (j := 2) (by decide) (by decide)
      have c0 : vp_in 0 5 := vpn (j := 0) (by decide) (by decide)
      have c1 : vp_in 1 5 := vpn (j := 1) (by decide) (by decide)
      have c3 : vp_in 3 5 := vpn (j := 3) (by decide) (by decide)
      have c4 : vp_in 4 5 := vpn (j := 4) (by decide) (by decide)
      have i18 : 18 ∈ [11, 12, 14, 18] := by decide
      have hM : mkM τ 0 (mnS nn c) < 32 := mkM_lt (fun i _ h => by have := (b2.2.1 i (by omega)).2; omega)
      have hrs : ∀ f, rowSum X2 (nI p) (nI (τ 2)) (nI (mkM τ 0 (mnS nn c - 0))) f (nn p) = rsC (scC X (nI p)) (nn p) (fun z => decide (PTX X (nI p) (nn p) z < mnS nn c)) f (τ 2) := by
        intro f
        rw [Nat.sub_zero, rowSum_rs hM n5, scC_fr f2 (by decide)]
        apply rsC_congr
        intro j hj
        rw [← hT, Bool.eq_iff_iff, mkM_bit, decide_eq_true_eq]
        constructor
        · rintro ⟨i, _, h3, rfl⟩
          rw [← b2.2.2.2.1 i (by omega)]
          omega
        · intro h
          exact ⟨_, Nat.zero_le _, by omega, b2.at hj⟩
      have rN : X2.1 2 0 (nI p) 5 = nI (nn p) := by rw [f2.at 2 (by decide)]; exact (hG p hp).1
      generalize hX3 : ((xs X2.1 18 0 (nI p) 0 (rowSum X2 (nI p) (nI (τ 2)) (nI (mkM τ 0 (mnS nn c - 0))) pF (nn p) - X2.1 5 0 (nI p) (nI (τ 2))), X2.2) : XT) = X3
      have f3 : Fr [18] X2 X3 := by rw [← hX3]; exact Fr.xs _ _ _ _ _ (List.mem_singleton.mpr rfl)
      have rN3 : X3.1 2 0 (nI p) 5 = nI (nn p) := by rw [f3.at 2 (by decide)]; exact rN
      generalize hX4 : ((xs X3.1 18 0 (nI p) 1 (rowSum X3 (nI p) (nI (τ 2)) (nI (mkM τ 0 (mnS nn c - 0))) dF (nn p)), X3.2) : XT) = X4
      have f4 : Fr [18] X3 X4 := by rw [← hX4]; exact Fr.xs _ _ _ _ _ (List.mem_singleton.mpr rfl)
      have rN4 : X4.1 2 0 (nI p) 5 = nI (nn p) := by rw [f4.at 2 (by decide)]; exact rN3
      generalize hX5 : ((xs X4.1 18 0 (nI p) 2 (rowSum X4 (nI p) (nI (τ 2)) (nI (mkM τ 0 (mnS nn c - 0))) gF9 (nn p)), X4.2) : XT) = X5
      have f5 : Fr [18] X4 X5 := by rw [← hX5]; exact Fr.xs _ _ _ _ _ (List.mem_singleton.mpr rfl)
      generalize hX6 : ((xs X5.1 18 0 (nI p) 3 (-X5.1 6 0 (nI p) (nI (τ 2))), X5.2) : XT) = X6
      have f6 : Fr [18] X5 X6 := by rw [← hX6]; exact Fr.xs _ _ _ _ _ (List.mem_singleton.mpr rfl)
      generalize hX7 : ((xs X6.1 18 0 (nI p) 4 (lotMk X6 (nI p) (nI (τ 2))), X6.2) : XT) = X7
      have f7 : Fr [18] X6 X7 := by rw [← hX7]; exact Fr.xs _ _ _ _ _ (List.mem_singleton.mpr rfl)
      have m18 : ∀ k, k ∈ [18] → k ∈ [11, 12, 14, 18] := by decide
      have g0 : rowSum X2 (nI p) (nI (τ 2)) (nI (mkM τ 0 (mnS nn c - 0))) pF (nn p) - X2.1 5 0 (nI p) (nI (τ 2)) = T5 X (nI p) (nn p) (mnS nn c) (τ 2) 0 := by
        rw [hrs, f2.at 5 (by decide)]; rfl
      have g1 : rowSum X3 (nI p) (nI (τ 2)) (nI (mkM τ 0 (mnS nn c - 0))) dF (nn p) = T5 X (nI p) (nn p) (mnS nn c) (τ 2) 1 := by
        rw [rowSum_fr f3 (by decide), hrs]; rfl
      have g2 : rowSum X4 (nI p) (nI (τ 2)) (nI (mkM τ 0 (mnS nn c - 0))) gF9 (nn p) = T5 X (nI p) (nn p) (mnS nn c) (τ 2) 2 := by
        rw [rowSum_fr (f3.tr f4) (by decide), hrs]; rfl
      have F5 : Fr [11, 12, 14, 18] X X5 := f2.tr (((f3.tr f4).tr f5).mo m18)
      have F6 : Fr [11, 12, 14, 18] X X6 := F5.tr (f6.mo m18)
      have F7 : Fr [11, 12, 14, 18] X X7 := F6.tr (f7.mo m18)
      have g3 : -X5.1 6 0 (nI p) (nI (τ 2)) = T5 X (nI p) (nn p) (mnS nn c) (τ 2) 3 := by rw [F5.at 6 (by decide)]; rfl
      have g4 : lotMk X6 (nI p) (nI (τ 2)) = T5 X (nI p) (nn p) (mnS nn c) (τ 2) 4 := by
        unfold lotMk
        rw [F6.at 7 (by decide), F6.at 2 (by decide)]; rfl
      have hrow : ∀ w, w < 6 → ∀ q, q < 5 → trow X7 w q = if w = p ∧ q = 4 then T5 X (nI p) (nn p) (mnS nn c) (τ 2) 4 else if w = p ∧ q = 3 then T5 X (nI p) (nn p) (mnS nn c) (τ 2) 3 else if w = p ∧ q = 2 then T5 X (nI p) (nn p) (mnS nn c) (τ 2) 2 else if w = p ∧ q = 1 then T5 X (nI p) (nn p) (mnS nn c) (τ 2) 1 else if w = p ∧ q = 0 then T5 X (nI p) (nn p) (mnS nn c) (τ 2) 0 else trow X1 w q := by
        intro w hw q hq
        rw [← hX7, g4, show (4 : Int32) = nI 4 from rfl, trow_xs hw (by omega) (by decide) q hq]
        rw [← hX6, g3, show (3 : Int32) = nI 3 from rfl, trow_xs hw (by omega) (by decide) q hq]
        rw [← hX5, g2, show (2 : Int32) = nI 2 from rfl, trow_xs hw (by omega) (by decide) q hq]
        rw [← hX4, g1, show (1 : Int32) = nI 1 from rfl, trow_xs hw (by omega) (by decide) q hq]
        rw [← hX3, g0, show trow (xs X2.1 18 0 (nI p) 0 (T5 X (nI p) (nn p) (mnS nn c) (τ 2) 0), X2.2) w q = trow (xs X2.1 18 0 (nI p) (nI 0) (T5 X (nI p) (nn p) (mnS nn c) (τ 2) 0), X2.2) w q from rfl, trow_xs hw (by omega) (by decide) q hq]
        rw [trow_fr b2.1 (by decide)]
      obtain ⟨Z, a1, a2, a3⟩ := ih X7 (vR 2 0 (nI p)) (vI (nI (τ 2))) (vI (nI (mkM τ 0 (mnS nn c - 0)))) (vI (rowSum X2 (nI p) (nI (τ 2)) (nI (mkM τ 0 (mnS nn c - 0))) pF (nn p))) F7 (fun i hi => by
        by_cases hip : i = p
        · refine ⟨τ 2, by rw [hip]; exact o2, by rw [hip]; exact hpt, fun q hq => ?_⟩
          rw [hip, hrow p (by omega) q hq]
          rcases (show q = 0 ∨ q = 1 ∨ q = 2 ∨ q = 3 ∨ q = 4 by omega) with rfl | rfl | rfl | rfl | rfl <;> simp
        · obtain ⟨t, e1, e2, e3⟩ := h1 i (by omega)
          refine ⟨t, e1, e2, fun q hq => ?_⟩
          rw [hrow i (by omega) q hq, if_neg (fun w => hip w.1), if_neg (fun w => hip w.1), if_neg (fun w => hip w.1), if_neg (fun w => hip w.1), if_neg (fun w => hip w.1)]
          exact e3 q hq)
      refine ⟨Z, ?_, a2, a3⟩
      refine ev_seg rfl ?_
      simp only [TE, sxs, sx, ldI, ldA, stI, stA, inc, gtF, ptF, ldX, stX, ldR, ldL, stL, dp1, dp2, Tm, kS0, kS1, kS2, kS3, kS4, kS5, kS6, kS7, kS8, kS9, kS10, kS11, kS12, kS13, kS14, kS15, kS16, kS17, kS18, kS19, kS20, kS21, kS22, kS23, kS24, kS25, kS26, kS27, kS28, kS30, kS31, kS32, kS33, kS34, kS35, kS36, kS37, kS38, kS39, kS40, kS41, kS42, kS43, kS51, kS52, kS53, List.getElem?_cons_zero, List.getElem?_cons_succ, List.set_cons_zero, List.set_cons_succ, List.length_cons, List.length_nil, List.drop_succ_cons, List.drop_zero, List.cons_append, List.nil_append, Option.toList_some, Option.toList_none, cz, ci2, true_and, and_true, and_self, true_or, or_true, nI_1, Nat.reduceAdd, Nat.reduceLT]
      refine ⟨fun h => absurd h (nle hp (by omega)), fun _ => ?_⟩
      refine ev_seg rfl ?_
      simp only [TE, sxs, sx, ldI, ldA, stI, stA, inc, gtF, ptF, ldX, stX, ldR, ldL, stL, dp1, dp2, Tm, kS0, kS1, kS2, kS3, kS4, kS5, kS6, kS7, kS8, kS9, kS10, kS11, kS12, kS13, kS14, kS15, kS16, kS17, kS18, kS19, kS20, kS21, kS22, kS23, kS24, kS25, kS26, kS27, kS28, kS30, kS31, kS32, kS33, kS34, kS35, kS36, kS37, kS38, kS39, kS40, kS41, kS42, kS43, kS51, kS52, kS53, List.getElem?_cons_zero, List.getElem?_cons_succ, List.set_cons_zero, List.set_cons_succ, List.length_cons, List.length_nil, List.drop_succ_cons, List.drop_zero, List.cons_append, List.nil_append, Option.toList_some, Option.toList_none, cz, ci2, true_and, and_true, and_self, true_or, or_true, nI_1, Nat.reduceAdd, Nat.reduceLT]
      refine ⟨(by first | assumption | (and_intros <;> first | assumption | trivial | decide)), cu2 rfl rfl (by first | exact rfl | exact trivial) (b1) ?_⟩
      refine ev_seg rfl ?_
      simp only [TE, sxs, sx, ldI, ldA, stI, stA, inc, gtF, ptF, ldX, stX, ldR, ldL, stL, dp1, dp2, Tm, kS0, kS1, kS2, kS3, kS4, kS5, kS6, kS7, kS8, kS9, kS10, kS11, kS12, kS13, kS14, kS15, kS16, kS17, kS18, kS19, kS20, kS21, kS22, kS23, kS24, kS25, kS26, kS27, kS28, kS30, kS31, kS32, kS33, kS34, kS35, kS36, kS37, kS38, kS39, kS40, kS41, kS42, kS43, kS51, kS52, kS53, List.getElem?_cons_zero, List.getElem?_cons_succ, List.set_cons_zero, List.set_cons_succ, List.length_cons, List.length_nil, List.drop_succ_cons, List.drop_zero, List.cons_append, List.nil_append, Option.toList_some, Option.toList_none, cz, ci2, true_and, and_true, and_self, true_or, or_true, nI_1, Nat.reduceAdd, Nat.reduceLT]
      refine cv2 rfl rfl (by first | exact rfl | exact trivial) (s_seatAt v2) ?_
      rw [show X2.1 12 0 0 2 = nI (τ 2) from o1]
      refine ev_seg rfl ?_
      simp only [TE, sxs, sx, ldI, ldA, stI, stA, inc, gtF, ptF, ldX, stX, ldR, ldL, stL, dp1, dp2, Tm, kS0, kS1, kS2, kS3, kS4, kS5, kS6, kS7, kS8, kS9, kS10, kS11, kS12, kS13, kS14, kS15, kS16, kS17, kS18, kS19, kS20, kS21, kS22, kS23, kS24, kS25, kS26, kS27, kS28, kS30, kS31, kS32, kS33, kS34, kS35, kS36, kS37, kS38, kS39, kS40, kS41, kS42, kS43, kS51, kS52, kS53, List.getElem?_cons_zero, List.getElem?_cons_succ, List.set_cons_zero, List.set_cons_succ, List.length_cons, List.length_nil, List.drop_succ_cons, List.drop_zero, List.cons_append, List.nil_append, Option.toList_some, Option.toList_none, cz, ci2, true_and, and_true, and_self, true_or, or_true, nI_1, Nat.reduceAdd, Nat.reduceLT]
      refine cv3 rfl rfl (by first | exact rfl | exact trivial) (s_setOf (s := 0) n5 (Nat.zero_le _) hmn b2.2.1) ?_
      refine ev_seg rfl ?_
      simp only [TE, sxs, sx, ldI, ldA, stI, stA, inc, gtF, ptF, ldX, stX, ldR, ldL, stL, dp1, dp2, Tm, kS0, kS1, kS2, kS3, kS4, kS5, kS6, kS7, kS8, kS9, kS10, kS11, kS12, kS13, kS14, kS15, kS16, kS17, kS18, kS19, kS20, kS21, kS22, kS23, kS24, kS25, kS26, kS27, kS28, kS30, kS31, kS32, kS33, kS34, kS35, kS36, kS37, kS38, kS39, kS40, kS41, kS42, kS43, kS51, kS52, kS53, List.getElem?_cons_zero, List.getElem?_cons_succ, List.set_cons_zero, List.set_cons_succ, List.length_cons, List.length_nil, List.drop_succ_cons, List.drop_zero, List.cons_append, List.nil_append, Option.toList_some, Option.toList_none, cz, ci2, true_and, and_true, and_self, true_or, or_true, nI_1, Nat.reduceAdd, Nat.reduceLT]
      refine cv3 rfl rfl (by first | exact rfl | exact trivial) (s_pointsFrom rN n5 vt) ?_
      refine ev_seg rfl ?_
      simp only [TE, sxs, sx, ldI, ldA, stI, stA, inc, gtF, ptF, ldX, stX, ldR, ldL, stL, dp1, dp2, Tm, kS0, kS1, kS2, kS3, kS4, kS5, kS6, kS7, kS8, kS9, kS10, kS11, kS12, kS13, kS14, kS15, kS16, kS17, kS18, kS19, kS20, kS21, kS22, kS23, kS24, kS25, kS26, kS27, kS28, kS30, kS31, kS32, kS33, kS34, kS35, kS36, kS37, kS38, kS39, kS40, kS41, kS42, kS43, kS51, kS52, kS53, List.getElem?_cons_zero, List.getElem?_cons_succ, List.set_cons_zero, List.set_cons_succ, List.length_cons, List.length_nil, List.drop_succ_cons, List.drop_zero, List.cons_append, List.nil_append, Option.toList_some, Option.toList_none, cz, ci2, true_and, and_true, and_self, true_or, or_true, nI_1, Nat.reduceAdd, Nat.reduceLT]
      refine cv2 rfl rfl (by first | exact rfl | exact trivial) (s_takenFrom vt) ?_
      refine ev_seg rfl ?_
      simp only [TE, sxs, sx, ldI, ldA, stI, stA, inc, gtF, ptF, ldX, stX, ldR, ldL, stL, dp1, dp2, Tm, kS0, kS1, kS2, kS3, kS4, kS5, kS6, kS7, kS8, kS9, kS10, kS11, kS12, kS13, kS14, kS15, kS16, kS17, kS18, kS19, kS20, kS21, kS22, kS23, kS24, kS25, kS26, kS27, kS28, kS30, kS31, kS32, kS33, kS34, kS35, kS36, kS37, kS38, kS39, kS40, kS41, kS42, kS43, kS51, kS52, kS53, List.getElem?_cons_zero, List.getElem?_cons_succ, List.set_cons_zero, List.set_cons_succ, List.length_cons, List.length_nil, List.drop_succ_cons, List.drop_zero, List.cons_append, List.nil_append, Option.toList_some, Option.toList_none, cz, ci2, true_and, and_true, and_self, true_or, or_true, nI_1, Nat.reduceAdd, Nat.reduceLT]
      refine cu4 rfl rfl (by first | exact rfl | exact trivial) (s_put16 v1 c0) ?_
      rw [hX3]
      refine ev_seg rfl ?_
      simp only [TE, sxs, sx, ldI, ldA, stI, stA, inc, gtF, ptF, ldX, stX, ldR, ldL, stL, dp1, dp2, Tm, kS0, kS1, kS2, kS3, kS4, kS5, kS6, kS7, kS8, kS9, kS10, kS11, kS12, kS13, kS14, kS15, kS16, kS17, kS18, kS19, kS20, kS21, kS22, kS23, kS24, kS25, kS26, kS27, kS28, kS30, kS31, kS32, kS33, kS34, kS35, kS36, kS37, kS38, kS39, kS40, kS41, kS42, kS43, kS51, kS52, kS53, List.getElem?_cons_zero, List.getElem?_cons_succ, List.set_cons_zero, List.set_cons_succ, List.length_cons, List.length_nil, List.drop_succ_cons, List.drop_zero, List.cons_append, List.nil_append, Option.toList_some, Option.toList_none, cz, ci2, true_and, and_true, and_self, true_or, or_true, nI_1, Nat.reduceAdd, Nat.reduceLT]
      refine cv3 rfl rfl (by first | exact rfl | exact trivial) (s_differenceFrom rN3 n5 vt) ?_
      refine ev_seg rfl ?_
      simp only [TE, sxs, sx, ldI, ldA, stI, stA, inc, gtF, ptF, ldX, stX, ldR, ldL, stL, dp1, dp2, Tm, kS0, kS1, kS2, kS3, kS4, kS5, kS6, kS7, kS8, kS9, kS10, kS11, kS12, kS13, kS14, kS15, kS16, kS17, kS18, kS19, kS20, kS21, kS22, kS23, kS24, kS25, kS26, kS27, kS28, kS30, kS31, kS32, kS33, kS34, kS35, kS36, kS37, kS38, kS39, kS40, kS41, kS42, kS43, kS51, kS52, kS53, List.getElem?_cons_zero, List.getElem?_cons_succ, List.set_cons_zero, List.set_cons_succ, List.length_cons, List.length_nil, List.drop_succ_cons, List.drop_zero, List.cons_append, List.nil_append, Option.toList_some, Option.toList_none, cz, ci2, true_and, and_true, and_self, true_or, or_true, nI_1, Nat.reduceAdd, Nat.reduceLT]
      refine cu4 rfl rfl (by first | exact rfl | exact trivial) (s_put16 v1 c1) ?_
      rw [hX4]
      refine ev_seg rfl ?_
      simp only [TE, sxs, sx, ldI, ldA, stI, stA, inc, gtF, ptF, ldX, stX, ldR, ldL, stL, dp1, dp2, Tm, kS0, kS1, kS2, kS3, kS4, kS5, kS6, kS7, kS8, kS9, kS10, kS11, kS12, kS13, kS14, kS15, kS16, kS17, kS18, kS19, kS20, kS21, kS22, kS23, kS24, kS25, kS26, kS27, kS28, kS30, kS31, kS32, kS33, kS34, kS35, kS36, kS37, kS38, kS39, kS40, kS41, kS42, kS43, kS51, kS52, kS53, List.getElem?_cons_zero, List.getElem?_cons_succ, List.set_cons_zero, List.set_cons_succ, List.length_cons, List.length_nil, List.drop_succ_cons, List.drop_zero, List.cons_append, List.nil_append, Option.toList_some, Option.toList_none, cz, ci2, true_and, and_true, and_self, true_or, or_true, nI_1, Nat.reduceAdd, Nat.reduceLT]
      refine cv3 rfl rfl (by first | exact rfl | exact trivial) (s_goalsFrom rN4 n5 vt) ?_
      refine ev_seg rfl ?_
      simp only [TE, sxs, sx, ldI, ldA, stI, stA, inc, gtF, ptF, ldX, stX, ldR, ldL, stL, dp1, dp2, Tm, kS0, kS1, kS2, kS3, kS4, kS5, kS6, kS7, kS8, kS9, kS10, kS11, kS12, kS13, kS14, kS15, kS16, kS17, kS18, kS19, kS20, kS21, kS22, kS23, kS24, kS25, kS26, kS27, kS28, kS30, kS31, kS32, kS33, kS34, kS35, kS36, kS37, kS38, kS39, kS40, kS41, kS42, kS43, kS51, kS52, kS53, List.getElem?_cons_zero, List.getElem?_cons_succ, List.set_cons_zero, List.set_cons_succ, List.length_cons, List.length_nil, List.drop_succ_cons, List.drop_zero, List.cons_append, List.nil_append, Option.toList_some, Option.toList_none, cz, ci2, true_and, and_true, and_self, true_or, or_true, nI_1, Nat.reduceAdd, Nat.reduceLT]
      refine cu4 rfl rfl (by first | exact rfl | exact trivial) (s_put16 v1 v2) ?_
      rw [hX5]
      refine ev_seg rfl ?_
      simp only [TE, sxs, sx, ldI, ldA, stI, stA, inc, gtF, ptF, ldX, stX, ldR, ldL, stL, dp1, dp2, Tm, kS0, kS1, kS2, kS3, kS4, kS5, kS6, kS7, kS8, kS9, kS10, kS11, kS12, kS13, kS14, kS15, kS16, kS17, kS18, kS19, kS20, kS21, kS22, kS23, kS24, kS25, kS26, kS27, kS28, kS30, kS31, kS32, kS33, kS34, kS35, kS36, kS37, kS38, kS39, kS40, kS41, kS42, kS43, kS51, kS52, kS53, List.getElem?_cons_zero, List.getElem?_cons_succ, List.set_cons_zero, List.set_cons_succ, List.length_cons, List.length_nil, List.drop_succ_cons, List.drop_zero, List.cons_append, List.nil_append, Option.toList_some, Option.toList_none, cz, ci2, true_and, and_true, and_self, true_or, or_true, nI_1, Nat.reduceAdd, Nat.reduceLT]
      refine cv2 rfl rfl (by first | exact rfl | exact trivial) (s_cardMark vt) ?_
      refine ev_seg rfl ?_
      simp only [TE, sxs, sx, ldI, ldA, stI, stA, inc, gtF, ptF, ldX, stX, ldR, ldL, stL, dp1, dp2, Tm, kS0, kS1, kS2, kS3, kS4, kS5, kS6, kS7, kS8, kS9, kS10, kS11, kS12, kS13, kS14, kS15, kS16, kS17, kS18, kS19, kS20, kS21, kS22, kS23, kS24, kS25, kS26, kS27, kS28, kS30, kS31, kS32, kS33, kS34, kS35, kS36, kS37, kS38, kS39, kS40, kS41, kS42, kS43, kS51, kS52, kS53, List.getElem?_cons_zero, List.getElem?_cons_succ, List.set_cons_zero, List.set_cons_succ, List.length_cons, List.length_nil, List.drop_succ_cons, List.drop_zero, List.cons_append, List.nil_append, Option.toList_some, Option.toList_none, cz, ci2, true_and, and_true, and_self, true_or, or_true, nI_1, Nat.reduceAdd, Nat.reduceLT]
      refine cu4 rfl rfl (by first | exact rfl | exact trivial) (s_put16 v1 c3) ?_
      rw [hX6]
      refine ev_seg rfl ?_
      simp only [TE, sxs, sx, ldI, ldA, stI, stA, inc, gtF, ptF, ldX, stX, ldR, ldL, stL, dp1, dp2, Tm, kS0, kS1, kS2, kS3, kS4, kS5, kS6, kS7, kS8, kS9, kS10, kS11, kS12, kS13, kS14, kS15, kS16, kS17, kS18, kS19, kS20, kS21, kS22, kS23, kS24, kS25, kS26, kS27, kS28, kS30, kS31, kS32, kS33, kS34, kS35, kS36, kS37, kS38, kS39, kS40, kS41, kS42, kS43, kS51, kS52, kS53, List.getElem?_cons_zero, List.getElem?_cons_succ, List.set_cons_zero, List.set_cons_succ, List.length_cons, List.length_nil, List.drop_succ_cons, List.drop_zero, List.cons_append, List.nil_append, Option.toList_some, Option.toList_none, cz, ci2, true_and, and_true, and_self, true_or, or_true, nI_1, Nat.reduceAdd, Nat.reduceLT]
      refine cv2 rfl rfl (by first | exact rfl | exact trivial) (s_lotMark vt) ?_
      refine ev_seg rfl ?_
      simp only [TE, sxs, sx, ldI, ldA, stI, stA, inc, gtF, ptF, ldX, stX, ldR, ldL, stL, dp1, dp2, Tm, kS0, kS1, kS2, kS3, kS4, kS5, kS6, kS7, kS8, kS9, kS10, kS11, kS12, kS13, kS14, kS15, kS16, kS17, kS18, kS19, kS20, kS21, kS22, kS23, kS24, kS25, kS26, kS27, kS28, kS30, kS31, kS32, kS33, kS34, kS35, kS36, kS37, kS38, kS39, kS40, kS41, kS42, kS43, kS51, kS52, kS53, List.getElem?_cons_zero, List.getElem?_cons_succ, List.set_cons_zero, List.set_cons_succ, List.length_cons, List.length_nil, List.drop_succ_cons, List.drop_zero, List.cons_append, List.nil_append, Option.toList_some, Option.toList_none, cz, ci2, true_and, and_true, and_self, true_or, or_true, nI_1, Nat.reduceAdd, Nat.reduceLT]
      refine cu4 rfl rfl (by first | exact rfl | exact trivial) (s_put16 v1 c4) ?_
      rw [hX7]
      refine ev_seg rfl ?_
      simp only [TE, sxs, sx, ldI, ldA, stI, stA, inc, gtF, ptF, ldX, stX, ldR, ldL, stL, dp1, dp2, Tm, kS0, kS1, kS2, kS3, kS4, kS5, kS6, kS7, kS8, kS9, kS10, kS11, kS12, kS13, kS14, kS15, kS16, kS17, kS18, kS19, kS20, kS21, kS22, kS23, kS24, kS25, kS26, kS27, kS28, kS30, kS31, kS32, kS33, kS34, kS35, kS36, kS37, kS38, kS39, kS40, kS41, kS42, kS43, kS51, kS52, kS53, List.getElem?_cons_zero, List.getElem?_cons_succ, List.set_cons_zero, List.set_cons_succ, List.length_cons, List.length_nil, List.drop_succ_cons, List.drop_zero, List.cons_append, List.nil_append, Option.toList_some, Option.toList_none, cz, ci2, true_and, and_true, and_self, true_or, or_true, nI_1, Nat.reduceAdd, Nat.reduceLT]
      exact a1
  obtain ⟨Z, a1, a2, a3⟩ := loop 0 (Nat.zero_le _) X av0 av0 av0 av0 (Fr.rf _ _) (fun i hi => absurd hi (by omega))
  refine ⟨Z, ?_, a2, a3⟩
  rw [en54]
  refine ev_seg rfl ?_
  simp only [TE, sxs, sx, ldI, ldA, stI, stA, inc, gtF, ptF, ldX, stX, ldR, ldL, stL, dp1, dp2, Tm, kS0, kS1, kS2, kS3, kS4, kS5, kS6, kS7, kS8, kS9, kS10, kS11, kS12, kS13, kS14, kS15, kS16, kS17, kS18, kS19, kS20, kS21, kS22, kS23, kS24, kS25, kS26, kS27, kS28, kS30, kS31, kS32, kS33, kS34, kS35, kS36, kS37, kS38, kS39, kS40, kS41, kS42, kS43, kS51, kS52, kS53, List.getElem?_cons_zero, List.getElem?_cons_succ, List.set_cons_zero, List.set_cons_succ, List.length_cons, List.length_nil, List.drop_succ_cons, List.drop_zero, List.cons_append, List.nil_append, Option.toList_some, Option.toList_none, cz, ci2, true_and, and_true, and_self, true_or, or_true, nI_1, Nat.reduceAdd, Nat.reduceLT]
  refine cv2 rfl rfl (by first | exact rfl | exact trivial) (s_smallestSize hc (fun i hi => ⟨(hG i hi).1, (hG i hi).2.2.1⟩)) ?_
  refine ev_seg rfl ?_
  simp only [TE, sxs, sx, ldI, ldA, stI, stA, inc, gtF, ptF, ldX, stX, ldR, ldL, stL, dp1, dp2, Tm, kS0, kS1, kS2, kS3, kS4, kS5, kS6, kS7, kS8, kS9, kS10, kS11, kS12, kS13, kS14, kS15, kS16, kS17, kS18, kS19, kS20, kS21, kS22, kS23, kS24, kS25, kS26, kS27, kS28, kS30, kS31, kS32, kS33, kS34, kS35, kS36, kS37, kS38, kS39, kS40, kS41, kS42, kS43, kS51, kS52, kS53, List.getElem?_cons_zero, List.getElem?_cons_succ, List.set_cons_zero, List.set_cons_succ, List.length_cons, List.length_nil, List.drop_succ_cons, List.drop_zero, List.cons_append, List.nil_append, Option.toList_some, Option.toList_none, cz, ci2, true_and, and_true, and_self, true_or, or_true, nI_1, Nat.reduceAdd, Nat.reduceLT]
  exact a1
end Thd
