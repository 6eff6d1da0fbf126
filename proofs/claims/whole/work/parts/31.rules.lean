/-! the reference: the rules -/
section Mrl
variable {sc : SC} {d : Nat} {X : XT} {i b n : Nat}
def KM (X : XT) (b n a c : Nat) : Int32 := if c = 0 then rsC (scM X b) n (fun _ => true) dF a else if c = 1 then rsC (scM X b) n (fun _ => true) gF9 a else if c = 2 then -caM X b a else -(loM X b a * 6 * 5 + nI b + nI a)
theorem rs_bd {S : Nat → Nat → Int32} (hS : SY S n) (hB : SB S n) (h5 : n ≤ 5) {a : Nat} (ha : a < n) (C : Nat → Bool) : (∃ z, rsC S n C pF a = zI z ∧ -100 ≤ z ∧ z ≤ 100) ∧ (∃ z, rsC S n C dF a = zI z ∧ -100 ≤ z ∧ z ≤ 100) ∧ ∃ z, rsC S n C gF9 a = zI z ∧ -100 ≤ z ∧ z ≤ 100 := by
  have key : ∀ f : Int32 → Int32 → Int32, (∀ v w, v ≤ 20 → w ≤ 20 → ∃ z, f (nI v) (nI w) = zI z ∧ -20 ≤ z ∧ z ≤ 20) → ∃ z, rsC S n C f a = zI z ∧ -100 ≤ z ∧ z ≤ 100 := by
    intro f hf
    have := sumN_z (f := fun j => if C j = true ∧ ¬ S a j = -1 then f (S a j) (S j a) else 0) (B := 20) (by omega) (n := n) (fun j hj => by
      by_cases hc : C j = true ∧ ¬ S a j = -1
      · obtain ⟨v, v1, v2⟩ := (hB a j ha hj).resolve_left hc.2
        obtain ⟨w, w1, w2⟩ := (hB j a hj ha).resolve_left (fun e => hc.2 ((hS.2 a j ha hj).mpr e))
        obtain ⟨z, z1, z2, z3⟩ := hf v w v1 w1
        exact ⟨z, by rw [if_pos hc, v2, w2, z1], z2, z3⟩
      · exact ⟨0, by rw [if_neg hc]; rfl, by omega, by omega⟩)
    obtain ⟨z, a1, a2, a3⟩ := this
    have : (n : Int) ≤ 5 := by omega
    exact ⟨z, a1, by omega, by omega⟩
  refine ⟨key pF (fun v w _ _ => ?_), key dF (fun v w hv hw => ⟨(v : Int) - w, ?_, by omega, by omega⟩), key gF9 (fun v w hv _ => ⟨(v : Int), zI_n v, by omega, by omega⟩)⟩
  · unfold pF
    split
    · exact ⟨1, rfl, by omega, by omega⟩
    · split
      · exact ⟨0, rfl, by omega, by omega⟩
      · exact ⟨3, rfl, by omega, by omega⟩
  · unfold dF
    rw [zI_n, zI_n, ← Int32.ofInt_sub]
/-- a signed difference of two marks -/
def DIF (D k k' : Int32) : Prop := (D = 0 ↔ k = k') ∧ (D ≤ 0 ↔ ¬ k' < k)
theorem DIF.mk {D k k' : Int32} {x y : Int} (hk : k = zI x) (hk' : k' = zI y) (h1 : -5000 ≤ x ∧ x ≤ 5000) (h2 : -5000 ≤ y ∧ y ≤ 5000) {w : Int} (hD : D = zI w) (hw : -20000 ≤ w ∧ w ≤ 20000) (h3 : w = 0 ↔ x = y) (h4 : w ≤ 0 ↔ ¬ y < x) : DIF D k k' := by
  subst hk
  subst hk'
  subst hD
  constructor
  · rw [zI_inj (by omega) (by omega) (by omega) (by omega), ← h3, show (0 : Int32) = zI 0 from rfl, zI_inj (by omega) (by omega) (by omega) (by omega)]
  · rw [zI_lt (by omega) (by omega) (by omega) (by omega), ← h4, show (0 : Int32) = zI 0 from rfl, zI_le (by omega) (by omega) (by omega) (by omega)]
/-- the sign of a rule -/
def sgR (f g : Nat → Int32) (m s : Nat) : Int32 := if betB f g m = true then nI (s + fa f g m) else -nI (s + fa f g m)
theorem sgR_at {f g : Nat → Int32} {m s k : Nat} {D : Int32} (hk : k < m) (h1 : ∀ c, c < k → f c = g c) (hD : DIF D (f k) (g k)) (hne : ¬ D = 0) : sgR f g m s = if D ≤ 0 then -nI (s + k) else nI (s + k) := by
  have hf : fa f g m = k := fa_uniq hk h1 (fun w => hne (hD.1.mpr w))
  unfold sgR
  rw [hf]
  by_cases h : D ≤ 0
  · rw [if_pos h, betB_no ?_]
    · rfl
    · intro w
      have := w.2
      rw [hf] at this
      exact hD.2.mp h this
  · rw [if_neg h, betB_iff.mpr ?_, if_pos rfl]
    refine ⟨by rw [hf]; exact hk, ?_⟩
    rw [hf]
    exact Classical.not_not.mp (fun w => h (hD.2.mpr w))
theorem s_MfinalRule (h : MS X i b n) (hV : MV X b n) {a a' : Nat} (ha : a < n) (ha' : a' < n) (hne : a ≠ a') : Ev sc (d + 3) 110 0 (ent 110 [vR 30 0 0, vI (nI (b + a)), vI (nI (b + a'))]) [] X (.inl (some (.inl (sgR (KM X b n a) (KM X b n a') 4 4)))) X 0 := by
  have h4 := h.1
  obtain ⟨hS, hB, hA, hC, hL⟩ := hV
  have v1 : vp_in (nI (b + a)) 30 := vpn (by omega) (by decide)
  have v2 : vp_in (nI (b + a')) 30 := vpn (by omega) (by decide)
  have r31 : ∀ {w a : Nat}, a < n → w < 3 → Ev sc (d + 2) 108 0 (ent 108 [vR 30 0 0, vI (nI (b + a)), vI (nI w), vI (nI 31)]) [] X (.inl (some (.inl (rsC (scM X b) n (fun _ => true) (fW3 w) a)))) X 0 := by
    intro w a ha hw
    have := s_Msums (sc := sc) (d := d) h hS ha (w := w) (M := 31) hw (by decide)
    rw [rsC_31 h4.2.2.1] at this
    exact this
  obtain ⟨-, ⟨x0, x1, x2⟩, y0, y1, y2⟩ := rs_bd hS hB h4.2.2.1 ha (fun _ => true)
  obtain ⟨-, ⟨x0', x1', x2'⟩, y0', y1', y2'⟩ := rs_bd hS hB h4.2.2.1 ha' (fun _ => true)
  obtain ⟨c, c1, c2⟩ := hC a ha
  obtain ⟨c', c1', c2'⟩ := hC a' ha'
  obtain ⟨l, l1, l2⟩ := hL a ha
  obtain ⟨l', l1', l2'⟩ := hL a' ha'
  have hneg : ∀ x : Nat, -nI x = zI (-x) := fun x => by rw [zI_n]; exact (Int32.ofInt_neg _).symm
  have hlot : ∀ (l a : Nat), -(nI l * 6 * 5 + nI b + nI a) = zI (-(30 * l + b + a : Nat)) := by
    intro l a
    rw [show (6 : Int32) = nI 6 from rfl, show (5 : Int32) = nI 5 from rfl, nI_ml, nI_ml, nI_ad, nI_ad, hneg]
    congr 3
    omega
  have d0 : DIF (rsC (scM X b) n (fun _ => true) dF a - rsC (scM X b) n (fun _ => true) dF a') (KM X b n a 0) (KM X b n a' 0) := DIF.mk (x := x0) (y := x0') x1 x1' (by omega) (by omega) (w := x0 - x0') (by rw [x1, x1', ← Int32.ofInt_sub]) (by omega) (by omega) (by omega)
  have d1 : DIF (rsC (scM X b) n (fun _ => true) gF9 a - rsC (scM X b) n (fun _ => true) gF9 a') (KM X b n a 1) (KM X b n a' 1) := DIF.mk (x := y0) (y := y0') y1 y1' (by omega) (by omega) (w := y0 - y0') (by rw [y1, y1', ← Int32.ofInt_sub]) (by omega) (by omega) (by omega)
  have d2 : DIF (caM X b a' - caM X b a) (KM X b n a 2) (KM X b n a' 2) := DIF.mk (x := -c) (y := -c') (by show -caM X b a = _; rw [c2, hneg]) (by show -caM X b a' = _; rw [c2', hneg]) (by omega) (by omega) (w := c' - c) (by rw [c2, c2', zI_n, zI_n, ← Int32.ofInt_sub]) (by omega) (by omega) (by omega)
  have d3 : DIF (if loM X b a' = loM X b a then nI (b + a') - nI (b + a) else loM X b a' - loM X b a) (KM X b n a 3) (KM X b n a' 3) := by
    have k1 : KM X b n a 3 = zI (-(30 * l + b + a : Nat)) := by show -(loM X b a * 6 * 5 + nI b + nI a) = _; rw [l2, hlot]
    have k2 : KM X b n a' 3 = zI (-(30 * l' + b + a' : Nat)) := by show -(loM X b a' * 6 * 5 + nI b + nI a') = _; rw [l2', hlot]
    rw [l2, l2']
    by_cases hll : l' = l
    · refine DIF.mk k1 k2 (by omega) (by omega) (w := (a' : Int) - a) (by rw [hll, if_pos rfl, zI_n, zI_n, ← Int32.ofInt_sub]; congr 1; omega) (by omega) (by omega) (by omega)
    · refine DIF.mk k1 k2 (by omega) (by omega) (w := (l' : Int) - l) (by rw [if_neg (fun w => hll (nI_inj (by omega) (by omega) w)), zI_n, zI_n, ← Int32.ofInt_sub]) (by omega) (by omega) (by omega)
  have n3 : ¬ (if loM X b a' = loM X b a then nI (b + a') - nI (b + a) else loM X b a' - loM X b a) = 0 := by
    intro w
    have := d3.1.mp w
    have k1 : KM X b n a 3 = zI (-(30 * l + b + a : Nat)) := by show -(loM X b a * 6 * 5 + nI b + nI a) = _; rw [l2, hlot]
    have k2 : KM X b n a' 3 = zI (-(30 * l' + b + a' : Nat)) := by show -(loM X b a' * 6 * 5 + nI b + nI a') = _; rw [l2', hlot]
    rw [k1, k2, zI_inj (by omega) (by omega) (by omega) (by omega)] at this
    omega
  generalize hD0 : rsC (scM X b) n (fun _ => true) dF a - rsC (scM X b) n (fun _ => true) dF a' = D0 at d0
  generalize hD1 : rsC (scM X b) n (fun _ => true) gF9 a - rsC (scM X b) n (fun _ => true) gF9 a' = D1 at d1
  generalize hD2 : caM X b a' - caM X b a = D2 at d2
  generalize hD3 : (if loM X b a' = loM X b a then nI (b + a') - nI (b + a) else loM X b a' - loM X b a) = D3 at d3 n3
  have fin : ∀ (r : Nat) (D L3 L4 L5 L6 : Int32) (z8 : AV), Ev sc (d + 3) 110 21 [vR 30 0 0, vI (nI (b + a)), vI (nI (b + a')), vI L3, vI L4, vI L5, vI L6, vI (nI r), z8] [vI D] X (.inl (some (.inl (if D ≤ 0 then -nI r else nI r)))) X 0 := by
    intro r D L3 L4 L5 L6 z8
    refine ev_seg rfl ?_
    simp only [TE, sxs, sx, ldI, ldA, stI, stA, inc, gtF, ptF, ldX, stX, ldR, ldL, stL, dp1, dp2, Tm, kS0, kS1, kS2, kS3, kS4, kS5, kS6, kS7, kS8, kS9, kS10, kS11, kS12, kS13, kS14, kS15, kS16, kS17, kS18, kS19, kS20, kS21, kS22, kS23, kS24, kS25, kS26, kS27, kS28, kS30, kS31, kS32, kS33, kS34, kS35, kS36, kS37, kS38, kS39, kS40, kS41, kS42, kS43, kS51, kS52, kS53, List.getElem?_cons_zero, List.getElem?_cons_succ, List.set_cons_zero, List.set_cons_succ, List.length_cons, List.length_nil, List.drop_succ_cons, List.drop_zero, List.cons_append, List.nil_append, Option.toList_some, Option.toList_none, cz, ci2, true_and, and_true, and_self, true_or, or_true, nI_1, Nat.reduceAdd, Nat.reduceLT]
    refine ⟨fun w => ?_, fun w => ?_⟩
    · rw [if_pos w]
      refine ev_seg rfl ?_
      simp only [TE, sxs, sx, ldI, ldA, stI, stA, inc, gtF, ptF, ldX, stX, ldR, ldL, stL, dp1, dp2, Tm, kS0, kS1, kS2, kS3, kS4, kS5, kS6, kS7, kS8, kS9, kS10, kS11, kS12, kS13, kS14, kS15, kS16, kS17, kS18, kS19, kS20, kS21, kS22, kS23, kS24, kS25, kS26, kS27, kS28, kS30, kS31, kS32, kS33, kS34, kS35, kS36, kS37, kS38, kS39, kS40, kS41, kS42, kS43, kS51, kS52, kS53, List.getElem?_cons_zero, List.getElem?_cons_succ, List.set_cons_zero, List.set_cons_succ, List.length_cons, List.length_nil, List.drop_succ_cons, List.drop_zero, List.cons_append, List.nil_append, Option.toList_some, Option.toList_none, cz, ci2, true_and, and_true, and_self, true_or, or_true, nI_1, Nat.reduceAdd, Nat.reduceLT]
      refine ev_seg rfl ?_
      simp only [TE, sxs, sx, ldI, ldA, stI, stA, inc, gtF, ptF, ldX, stX, ldR, ldL, stL, dp1, dp2, Tm, kS0, kS1, kS2, kS3, kS4, kS5, kS6, kS7, kS8, kS9, kS10, kS11, kS12, kS13, kS14, kS15, kS16, kS17, kS18, kS19, kS20, kS21, kS22, kS23, kS24, kS25, kS26, kS27, kS28, kS30, kS31, kS32, kS33, kS34, kS35, kS36, kS37, kS38, kS39, kS40, kS41, kS42, kS43, kS51, kS52, kS53, List.getElem?_cons_zero, List.getElem?_cons_succ, List.set_cons_zero, List.set_cons_succ, List.length_cons, List.length_nil, List.drop_succ_cons, List.drop_zero, List.cons_append, List.nil_append, Option.toList_some, Option.toList_none, cz, ci2, true_and, and_true, and_self, true_or, or_true, nI_1, Nat.reduceAdd, Nat.reduceLT]
    · rw [if_neg w]
      refine ev_seg rfl ?_
      simp only [TE, sxs, sx, ldI, ldA, stI, stA, inc, gtF, ptF, ldX, stX, ldR, ldL, stL, dp1, dp2, Tm, kS0, kS1, kS2, kS3, kS4, kS5, kS6, kS7, kS8, kS9, kS10, kS11, kS12, kS13, kS14, kS15, kS16, kS17, kS18, kS19, kS20, kS21, kS22, kS23, kS24, kS25, kS26, kS27, kS28, kS30, kS31, kS32, kS33, kS34, kS35, kS36, kS37, kS38, kS39, kS40, kS41, kS42, kS43, kS51, kS52, kS53, List.getElem?_cons_zero, List.getElem?_cons_succ, List.set_cons_zero, List.set_cons_succ, List.length_cons, List.length_nil, List.drop_succ_cons, List.drop_zero, List.cons_append, List.nil_append, Option.toList_some, Option.toList_none, cz, ci2, true_and, and_true, and_self, true_or, or_true, nI_1, Nat.reduceAdd, Nat.reduceLT]
      refine ev_seg rfl ?_
      simp only [TE, sxs, sx, ldI, ldA, stI, stA, inc, gtF, ptF, ldX, stX, ldR, ldL, stL, dp1, dp2, Tm, kS0, kS1, kS2, kS3, kS4, kS5, kS6, kS7, kS8, kS9, kS10, kS11, kS12, kS13, kS14, kS15, kS16, kS17, kS18, kS19, kS20, kS21, kS22, kS23, kS24, kS25, kS26, kS27, kS28, kS30, kS31, kS32, kS33, kS34, kS35, kS36, kS37, kS38, kS39, kS40, kS41, kS42, kS43, kS51, kS52, kS53, List.getElem?_cons_zero, List.getElem?_cons_succ, List.set_cons_zero, List.set_cons_succ, List.length_cons, List.length_nil, List.drop_succ_cons, List.drop_zero, List.cons_append, List.nil_append, Option.toList_some, Option.toList_none, cz, ci2, true_and, and_true, and_self, true_or, or_true, nI_1, Nat.reduceAdd, Nat.reduceLT]
  have mid : Ev sc (d + 3) 110 7 [vR 30 0 0, vI (nI (b + a)), vI (nI (b + a')), vI D0, vI D1, vI D2, av0, av0, av0] [vI D3] X (.inl (some (.inl (sgR (KM X b n a) (KM X b n a') 4 4)))) X 0 := by
    refine ev_seg rfl ?_
    simp only [TE, sxs, sx, ldI, ldA, stI, stA, inc, gtF, ptF, ldX, stX, ldR, ldL, stL, dp1, dp2, Tm, kS0, kS1, kS2, kS3, kS4, kS5, kS6, kS7, kS8, kS9, kS10, kS11, kS12, kS13, kS14, kS15, kS16, kS17, kS18, kS19, kS20, kS21, kS22, kS23, kS24, kS25, kS26, kS27, kS28, kS30, kS31, kS32, kS33, kS34, kS35, kS36, kS37, kS38, kS39, kS40, kS41, kS42, kS43, kS51, kS52, kS53, List.getElem?_cons_zero, List.getElem?_cons_succ, List.set_cons_zero, List.set_cons_succ, List.length_cons, List.length_nil, List.drop_succ_cons, List.drop_zero, List.cons_append, List.nil_append, Option.toList_some, Option.toList_none, cz, ci2, true_and, and_true, and_self, true_or, or_true, nI_1, Nat.reduceAdd, Nat.reduceLT]
    refine ⟨fun w0 => ?_, fun w0 => ?_⟩
    · have e0 := d0.1.mp w0
      refine ev_seg rfl ?_
      simp only [TE, sxs, sx, ldI, ldA, stI, stA, inc, gtF, ptF, ldX, stX, ldR, ldL, stL, dp1, dp2, Tm, kS0, kS1, kS2, kS3, kS4, kS5, kS6, kS7, kS8, kS9, kS10, kS11, kS12, kS13, kS14, kS15, kS16, kS17, kS18, kS19, kS20, kS21, kS22, kS23, kS24, kS25, kS26, kS27, kS28, kS30, kS31, kS32, kS33, kS34, kS35, kS36, kS37, kS38, kS39, kS40, kS41, kS42, kS43, kS51, kS52, kS53, List.getElem?_cons_zero, List.getElem?_cons_succ, List.set_cons_zero, List.set_cons_succ, List.length_cons, List.length_nil, List.drop_succ_cons, List.drop_zero, List.cons_append, List.nil_append, Option.toList_some, Option.toList_none, cz, ci2, true_and, and_true, and_self, true_or, or_true, nI_1, Nat.reduceAdd, Nat.reduceLT]
      refine ⟨fun w1 => ?_, fun w1 => ?_⟩
      · have e1 := d1.1.mp w1
        refine ev_seg rfl ?_
        simp only [TE, sxs, sx, ldI, ldA, stI, stA, inc, gtF, ptF, ldX, stX, ldR, ldL, stL, dp1, dp2, Tm, kS0, kS1, kS2, kS3, kS4, kS5, kS6, kS7, kS8, kS9, kS10, kS11, kS12, kS13, kS14, kS15, kS16, kS17, kS18, kS19, kS20, kS21, kS22, kS23, kS24, kS25, kS26, kS27, kS28, kS30, kS31, kS32, kS33, kS34, kS35, kS36, kS37, kS38, kS39, kS40, kS41, kS42, kS43, kS51, kS52, kS53, List.getElem?_cons_zero, List.getElem?_cons_succ, List.set_cons_zero, List.set_cons_succ, List.length_cons, List.length_nil, List.drop_succ_cons, List.drop_zero, List.cons_append, List.nil_append, Option.toList_some, Option.toList_none, cz, ci2, true_and, and_true, and_self, true_or, or_true, nI_1, Nat.reduceAdd, Nat.reduceLT]
        refine ⟨fun w2 => ?_, fun w2 => ?_⟩
        · have e2 := d2.1.mp w2
          rw [sgR_at (k := 3) (by decide) (fun c hc => by
            rcases (show c = 0 ∨ c = 1 ∨ c = 2 by omega) with rfl | rfl | rfl <;> assumption) d3 n3]
          refine ev_seg rfl ?_
          simp only [TE, sxs, sx, ldI, ldA, stI, stA, inc, gtF, ptF, ldX, stX, ldR, ldL, stL, dp1, dp2, Tm, kS0, kS1, kS2, kS3, kS4, kS5, kS6, kS7, kS8, kS9, kS10, kS11, kS12, kS13, kS14, kS15, kS16, kS17, kS18, kS19, kS20, kS21, kS22, kS23, kS24, kS25, kS26, kS27, kS28, kS30, kS31, kS32, kS33, kS34, kS35, kS36, kS37, kS38, kS39, kS40, kS41, kS42, kS43, kS51, kS52, kS53, List.getElem?_cons_zero, List.getElem?_cons_succ, List.set_cons_zero, List.set_cons_succ, List.length_cons, List.length_nil, List.drop_succ_cons, List.drop_zero, List.cons_append, List.nil_append, Option.toList_some, Option.toList_none, cz, ci2, true_and, and_true, and_self, true_or, or_true, nI_1, Nat.reduceAdd, Nat.reduceLT]
          refine ev_seg rfl ?_
          simp only [TE, sxs, sx, ldI, ldA, stI, stA, inc, gtF, ptF, ldX, stX, ldR, ldL, stL, dp1, dp2, Tm, kS0, kS1, kS2, kS3, kS4, kS5, kS6, kS7, kS8, kS9, kS10, kS11, kS12, kS13, kS14, kS15, kS16, kS17, kS18, kS19, kS20, kS21, kS22, kS23, kS24, kS25, kS26, kS27, kS28, kS30, kS31, kS32, kS33, kS34, kS35, kS36, kS37, kS38, kS39, kS40, kS41, kS42, kS43, kS51, kS52, kS53, List.getElem?_cons_zero, List.getElem?_cons_succ, List.set_cons_zero, List.set_cons_succ, List.length_cons, List.length_nil, List.drop_succ_cons, List.drop_zero, List.cons_append, List.nil_append, Option.toList_some, Option.toList_none, cz, ci2, true_and, and_true, and_self, true_or, or_true, nI_1, Nat.reduceAdd, Nat.reduceLT]
          refine ⟨fun _ => ?_, fun w => absurd (by decide) w⟩
          refine ev_seg rfl ?_
          simp only [TE, sxs, sx, ldI, ldA, stI, stA, inc, gtF, ptF, ldX, stX, ldR, ldL, stL, dp1, dp2, Tm, kS0, kS1, kS2, kS3, kS4, kS5, kS6, kS7, kS8, kS9, kS10, kS11, kS12, kS13, kS14, kS15, kS16, kS17, kS18, kS19, kS20, kS21, kS22, kS23, kS24, kS25, kS26, kS27, kS28, kS30, kS31, kS32, kS33, kS34, kS35, kS36, kS37, kS38, kS39, kS40, kS41, kS42, kS43, kS51, kS52, kS53, List.getElem?_cons_zero, List.getElem?_cons_succ, List.set_cons_zero, List.set_cons_succ, List.length_cons, List.length_nil, List.drop_succ_cons, List.drop_zero, List.cons_append, List.nil_append, Option.toList_some, Option.toList_none, cz, ci2, true_and, and_true, and_self, true_or, or_true, nI_1, Nat.reduceAdd, Nat.reduceLT]
          refine ⟨fun _ => ?_, fun w => absurd (by decide) w⟩
          refine ev_seg rfl ?_
          simp only [TE, sxs, sx, ldI, ldA, stI, stA, inc, gtF, ptF, ldX, stX, ldR, ldL, stL, dp1, dp2, Tm, kS0, kS1, kS2, kS3, kS4, kS5, kS6, kS7, kS8, kS9, kS10, kS11, kS12, kS13, kS14, kS15, kS16, kS17, kS18, kS19, kS20, kS21, kS22, kS23, kS24, kS25, kS26, kS27, kS28, kS30, kS31, kS32, kS33, kS34, kS35, kS36, kS37, kS38, kS39, kS40, kS41, kS42, kS43, kS51, kS52, kS53, List.getElem?_cons_zero, List.getElem?_cons_succ, List.set_cons_zero, List.set_cons_succ, List.length_cons, List.length_nil, List.drop_succ_cons, List.drop_zero, List.cons_append, List.nil_append, Option.toList_some, Option.toList_none, cz, ci2, true_and, and_true, and_self, true_or, or_true, nI_1, Nat.reduceAdd, Nat.reduceLT]
          refine ⟨fun _ => ?_, fun w => absurd (by decide) w⟩
          refine ev_seg rfl ?_
          simp only [TE, sxs, sx, ldI, ldA, stI, stA, inc, gtF, ptF, ldX, stX, ldR, ldL, stL, dp1, dp2, Tm, kS0, kS1, kS2, kS3, kS4, kS5, kS6, kS7, kS8, kS9, kS10, kS11, kS12, kS13, kS14, kS15, kS16, kS17, kS18, kS19, kS20, kS21, kS22, kS23, kS24, kS25, kS26, kS27, kS28, kS30, kS31, kS32, kS33, kS34, kS35, kS36, kS37, kS38, kS39, kS40, kS41, kS42, kS43, kS51, kS52, kS53, List.getElem?_cons_zero, List.getElem?_cons_succ, List.set_cons_zero, List.set_cons_succ, List.length_cons, List.length_nil, List.drop_succ_cons, List.drop_zero, List.cons_append, List.nil_append, Option.toList_some, Option.toList_none, cz, ci2, true_and, and_true, and_self, true_or, or_true, nI_1, Nat.reduceAdd, Nat.reduceLT]
          exact fin 7 D3 _ _ _ _ _
        · rw [sgR_at (k := 2) (by decide) (fun c hc => by
            rcases (show c = 0 ∨ c = 1 by omega) with rfl | rfl <;> assumption) d2 w2]
          refine ev_seg rfl ?_
          simp only [TE, sxs, sx, ldI, ldA, stI, stA, inc, gtF, ptF, ldX, stX, ldR, ldL, stL, dp1, dp2, Tm, kS0, kS1, kS2, kS3, kS4, kS5, kS6, kS7, kS8, kS9, kS10, kS11, kS12, kS13, kS14, kS15, kS16, kS17, kS18, kS19, kS20, kS21, kS22, kS23, kS24, kS25, kS26, kS27, kS28, kS30, kS31, kS32, kS33, kS34, kS35, kS36, kS37, kS38, kS39, kS40, kS41, kS42, kS43, kS51, kS52, kS53, List.getElem?_cons_zero, List.getElem?_cons_succ, List.set_cons_zero, List.set_cons_succ, List.length_cons, List.length_nil, List.drop_succ_cons, List.drop_zero, List.cons_append, List.nil_append, Option.toList_some, Option.toList_none, cz, ci2, true_and, and_true, and_self, true_or, or_true, nI_1, Nat.reduceAdd, Nat.reduceLT]
          refine ev_seg rfl ?_
          simp only [TE, sxs, sx, ldI, ldA, stI, stA, inc, gtF, ptF, ldX, stX, ldR, ldL, stL, dp1, dp2, Tm, kS0, kS1, kS2, kS3, kS4, kS5, kS6, kS7, kS8, kS9, kS10, kS11, kS12, kS13, kS14, kS15, kS16, kS17, kS18, kS19, kS20, kS21, kS22, kS23, kS24, kS25, kS26, kS27, kS28, kS30, kS31, kS32, kS33, kS34, kS35, kS36, kS37, kS38, kS39, kS40, kS41, kS42, kS43, kS51, kS52, kS53, List.getElem?_cons_zero, List.getElem?_cons_succ, List.set_cons_zero, List.set_cons_succ, List.length_cons, List.length_nil, List.drop_succ_cons, List.drop_zero, List.cons_append, List.nil_append, Option.toList_some, Option.toList_none, cz, ci2, true_and, and_true, and_self, true_or, or_true, nI_1, Nat.reduceAdd, Nat.reduceLT]
          refine ⟨fun _ => ?_, fun w => absurd (by decide) w⟩
          refine ev_seg rfl ?_
          simp only [TE, sxs, sx, ldI, ldA, stI, stA, inc, gtF, ptF, ldX, stX, ldR, ldL, stL, dp1, dp2, Tm, kS0, kS1, kS2, kS3, kS4, kS5, kS6, kS7, kS8, kS9, kS10, kS11, kS12, kS13, kS14, kS15, kS16, kS17, kS18, kS19, kS20, kS21, kS22, kS23, kS24, kS25, kS26, kS27, kS28, kS30, kS31, kS32, kS33, kS34, kS35, kS36, kS37, kS38, kS39, kS40, kS41, kS42, kS43, kS51, kS52, kS53, List.getElem?_cons_zero, List.getElem?_cons_succ, List.set_cons_zero, List.set_cons_succ, List.length_cons, List.length_nil, List.drop_succ_cons, List.drop_zero, List.cons_append, List.nil_append, Option.toList_some, Option.toList_none, cz, ci2, true_and, and_true, and_self, true_or, or_true, nI_1, Nat.reduceAdd, Nat.reduceLT]
          refine ⟨fun _ => ?_, fun w => absurd (by decide) w⟩
          refine ev_seg rfl ?_
          simp only [TE, sxs, sx, ldI, ldA, stI, stA, inc, gtF, ptF, ldX, stX, ldR, ldL, stL, dp1, dp2, Tm, kS0, kS1, kS2, kS3, kS4, kS5, kS6, kS7, kS8, kS9, kS10, kS11, kS12, kS13, kS14, kS15, kS16, kS17, kS18, kS19, kS20, kS21, kS22, kS23, kS24, kS25, kS26, kS27, kS28, kS30, kS31, kS32, kS33, kS34, kS35, kS36, kS37, kS38, kS39, kS40, kS41, kS42, kS43, kS51, kS52, kS53, List.getElem?_cons_zero, List.getElem?_cons_succ, List.set_cons_zero, List.set_cons_succ, List.length_cons, List.length_nil, List.drop_succ_cons, List.drop_zero, List.cons_append, List.nil_append, Option.toList_some, Option.toList_none, cz, ci2, true_and, and_true, and_self, true_or, or_true, nI_1, Nat.reduceAdd, Nat.reduceLT]
          refine ⟨fun w => absurd trivial w, fun _ => ?_⟩
          refine ev_seg rfl ?_
          simp only [TE, sxs, sx, ldI, ldA, stI, stA, inc, gtF, ptF, ldX, stX, ldR, ldL, stL, dp1, dp2, Tm, kS0, kS1, kS2, kS3, kS4, kS5, kS6, kS7, kS8, kS9, kS10, kS11, kS12, kS13, kS14, kS15, kS16, kS17, kS18, kS19, kS20, kS21, kS22, kS23, kS24, kS25, kS26, kS27, kS28, kS30, kS31, kS32, kS33, kS34, kS35, kS36, kS37, kS38, kS39, kS40, kS41, kS42, kS43, kS51, kS52, kS53, List.getElem?_cons_zero, List.getElem?_cons_succ, List.set_cons_zero, List.set_cons_succ, List.length_cons, List.length_nil, List.drop_succ_cons, List.drop_zero, List.cons_append, List.nil_append, Option.toList_some, Option.toList_none, cz, ci2, true_and, and_true, and_self, true_or, or_true, nI_1, Nat.reduceAdd, Nat.reduceLT]
          exact fin 6 D2 _ _ _ _ _
      · rw [sgR_at (k := 1) (by decide) (fun c hc => by
          rcases (show c = 0 by omega) with rfl
          assumption) d1 w1]
        refine ev_seg rfl ?_
        simp only [TE, sxs, sx, ldI, ldA, stI, stA, inc, gtF, ptF, ldX, stX, ldR, ldL, stL, dp1, dp2, Tm, kS0, kS1, kS2, kS3, kS4, kS5, kS6, kS7, kS8, kS9, kS10, kS11, kS12, kS13, kS14, kS15, kS16, kS17, kS18, kS19, kS20, kS21, kS22, kS23, kS24, kS25, kS26, kS27, kS28, kS30, kS31, kS32, kS33, kS34, kS35, kS36, kS37, kS38, kS39, kS40, kS41, kS42, kS43, kS51, kS52, kS53, List.getElem?_cons_zero, List.getElem?_cons_succ, List.set_cons_zero, List.set_cons_succ, List.length_cons, List.length_nil, List.drop_succ_cons, List.drop_zero, List.cons_append, List.nil_append, Option.toList_some, Option.toList_none, cz, ci2, true_and, and_true, and_self, true_or, or_true, nI_1, Nat.reduceAdd, Nat.reduceLT]
        refine ev_seg rfl ?_
        simp only [TE, sxs, sx, ldI, ldA, stI, stA, inc, gtF, ptF, ldX, stX, ldR, ldL, stL, dp1, dp2, Tm, kS0, kS1, kS2, kS3, kS4, kS5, kS6, kS7, kS8, kS9, kS10, kS11, kS12, kS13, kS14, kS15, kS16, kS17, kS18, kS19, kS20, kS21, kS22, kS23, kS24, kS25, kS26, kS27, kS28, kS30, kS31, kS32, kS33, kS34, kS35, kS36, kS37, kS38, kS39, kS40, kS41, kS42, kS43, kS51, kS52, kS53, List.getElem?_cons_zero, List.getElem?_cons_succ, List.set_cons_zero, List.set_cons_succ, List.length_cons, List.length_nil, List.drop_succ_cons, List.drop_zero, List.cons_append, List.nil_append, Option.toList_some, Option.toList_none, cz, ci2, true_and, and_true, and_self, true_or, or_true, nI_1, Nat.reduceAdd, Nat.reduceLT]
        refine ⟨fun _ => ?_, fun w => absurd (by decide) w⟩
        refine ev_seg rfl ?_
        simp only [TE, sxs, sx, ldI, ldA, stI, stA, inc, gtF, ptF, ldX, stX, ldR, ldL, stL, dp1, dp2, Tm, kS0, kS1, kS2, kS3, kS4, kS5, kS6, kS7, kS8, kS9, kS10, kS11, kS12, kS13, kS14, kS15, kS16, kS17, kS18, kS19, kS20, kS21, kS22, kS23, kS24, kS25, kS26, kS27, kS28, kS30, kS31, kS32, kS33, kS34, kS35, kS36, kS37, kS38, kS39, kS40, kS41, kS42, kS43, kS51, kS52, kS53, List.getElem?_cons_zero, List.getElem?_cons_succ, List.set_cons_zero, List.set_cons_succ, List.length_cons, List.length_nil, List.drop_succ_cons, List.drop_zero, List.cons_append, List.nil_append, Option.toList_some, Option.toList_none, cz, ci2, true_and, and_true, and_self, true_or, or_true, nI_1, Nat.reduceAdd, Nat.reduceLT]
        refine ⟨fun w => absurd trivial w, fun _ => ?_⟩
        refine ev_seg rfl ?_
        simp only [TE, sxs, sx, ldI, ldA, stI, stA, inc, gtF, ptF, ldX, stX, ldR, ldL, stL, dp1, dp2, Tm, kS0, kS1, kS2, kS3, kS4, kS5, kS6, kS7, kS8, kS9, kS10, kS11, kS12, kS13, kS14, kS15, kS16, kS17, kS18, kS19, kS20, kS21, kS22, kS23, kS24, kS25, kS26, kS27, kS28, kS30, kS31, kS32, kS33, kS34, kS35, kS36, kS37, kS38, kS39, kS40, kS41, kS42, kS43, kS51, kS52, kS53, List.getElem?_cons_zero, List.getElem?_cons_succ, List.set_cons_zero, List.set_cons_succ, List.length_cons, List.length_nil, List.drop_succ_cons, List.drop_zero, List.cons_append, List.nil_append, Option.toList_some, Option.toList_none, cz, ci2, true_and, and_true, and_self, true_or, or_true, nI_1, Nat.reduceAdd, Nat.reduceLT]
        exact fin 5 D1 _ _ _ _ _
    · rw [sgR_at (k := 0) (by decide) (fun c hc => absurd hc (by omega)) d0 w0]
      refine ev_seg rfl ?_
      simp only [TE, sxs, sx, ldI, ldA, stI, stA, inc, gtF, ptF, ldX, stX, ldR, ldL, stL, dp1, dp2, Tm, kS0, kS1, kS2, kS3, kS4, kS5, kS6, kS7, kS8, kS9, kS10, kS11, kS12, kS13, kS14, kS15, kS16, kS17, kS18, kS19, kS20, kS21, kS22, kS23, kS24, kS25, kS26, kS27, kS28, kS30, kS31, kS32, kS33, kS34, kS35, kS36, kS37, kS38, kS39, kS40, kS41, kS42, kS43, kS51, kS52, kS53, List.getElem?_cons_zero, List.getElem?_cons_succ, List.set_cons_zero, List.set_cons_succ, List.length_cons, List.length_nil, List.drop_succ_cons, List.drop_zero, List.cons_append, List.nil_append, Option.toList_some, Option.toList_none, cz, ci2, true_and, and_true, and_self, true_or, or_true, nI_1, Nat.reduceAdd, Nat.reduceLT]
      refine ev_seg rfl ?_
      simp only [TE, sxs, sx, ldI, ldA, stI, stA, inc, gtF, ptF, ldX, stX, ldR, ldL, stL, dp1, dp2, Tm, kS0, kS1, kS2, kS3, kS4, kS5, kS6, kS7, kS8, kS9, kS10, kS11, kS12, kS13, kS14, kS15, kS16, kS17, kS18, kS19, kS20, kS21, kS22, kS23, kS24, kS25, kS26, kS27, kS28, kS30, kS31, kS32, kS33, kS34, kS35, kS36, kS37, kS38, kS39, kS40, kS41, kS42, kS43, kS51, kS52, kS53, List.getElem?_cons_zero, List.getElem?_cons_succ, List.set_cons_zero, List.set_cons_succ, List.length_cons, List.length_nil, List.drop_succ_cons, List.drop_zero, List.cons_append, List.nil_append, Option.toList_some, Option.toList_none, cz, ci2, true_and, and_true, and_self, true_or, or_true, nI_1, Nat.reduceAdd, Nat.reduceLT]
      refine ⟨fun w => absurd trivial w, fun _ => ?_⟩
      refine ev_seg rfl ?_
      simp only [TE, sxs, sx, ldI, ldA, stI, stA, inc, gtF, ptF, ldX, stX, ldR, ldL, stL, dp1, dp2, Tm, kS0, kS1, kS2, kS3, kS4, kS5, kS6, kS7, kS8, kS9, kS10, kS11, kS12, kS13, kS14, kS15, kS16, kS17, kS18, kS19, kS20, kS21, kS22, kS23, kS24, kS25, kS26, kS27, kS28, kS30, kS31, kS32, kS33, kS34, kS35, kS36, kS37, kS38, kS39, kS40, kS41, kS42, kS43, kS51, kS52, kS53, List.getElem?_cons_zero, List.getElem?_cons_succ, List.set_cons_zero, List.set_cons_succ, List.length_cons, List.length_nil, List.drop_succ_cons, List.drop_zero, List.cons_append, List.nil_append, Option.toList_some, Option.toList_none, cz, ci2, true_and, and_true, and_self, true_or, or_true, nI_1, Nat.reduceAdd, Nat.reduceLT]
      exact fin 4 D0 _ _ _ _ _
  have e35 : X.1 35 0 0 (nI (b + a')) - X.1 35 0 0 (nI (b + a)) = D2 := hD2
  rw [en110]
  refine ev_seg rfl ?_
  simp only [TE, sxs, sx, ldI, ldA, stI, stA, inc, gtF, ptF, ldX, stX, ldR, ldL, stL, dp1, dp2, Tm, kS0, kS1, kS2, kS3, kS4, kS5, kS6, kS7, kS8, kS9, kS10, kS11, kS12, kS13, kS14, kS15, kS16, kS17, kS18, kS19, kS20, kS21, kS22, kS23, kS24, kS25, kS26, kS27, kS28, kS30, kS31, kS32, kS33, kS34, kS35, kS36, kS37, kS38, kS39, kS40, kS41, kS42, kS43, kS51, kS52, kS53, List.getElem?_cons_zero, List.getElem?_cons_succ, List.set_cons_zero, List.set_cons_succ, List.length_cons, List.length_nil, List.drop_succ_cons, List.drop_zero, List.cons_append, List.nil_append, Option.toList_some, Option.toList_none, cz, ci2, true_and, and_true, and_self, true_or, or_true, nI_1, Nat.reduceAdd, Nat.reduceLT]
  refine cv4 rfl rfl (by first | exact rfl | exact trivial) (r31 (w := 1) ha (by decide)) ?_
  refine ev_seg rfl ?_
  simp only [TE, sxs, sx, ldI, ldA, stI, stA, inc, gtF, ptF, ldX, stX, ldR, ldL, stL, dp1, dp2, Tm, kS0, kS1, kS2, kS3, kS4, kS5, kS6, kS7, kS8, kS9, kS10, kS11, kS12, kS13, kS14, kS15, kS16, kS17, kS18, kS19, kS20, kS21, kS22, kS23, kS24, kS25, kS26, kS27, kS28, kS30, kS31, kS32, kS33, kS34, kS35, kS36, kS37, kS38, kS39, kS40, kS41, kS42, kS43, kS51, kS52, kS53, List.getElem?_cons_zero, List.getElem?_cons_succ, List.set_cons_zero, List.set_cons_succ, List.length_cons, List.length_nil, List.drop_succ_cons, List.drop_zero, List.cons_append, List.nil_append, Option.toList_some, Option.toList_none, cz, ci2, true_and, and_true, and_self, true_or, or_true, nI_1, Nat.reduceAdd, Nat.reduceLT]
  refine cv4 rfl rfl (by first | exact rfl | exact trivial) (r31 (w := 1) ha' (by decide)) ?_
  rw [show fW3 1 = dF from rfl]
  refine ev_seg rfl ?_
  simp only [TE, sxs, sx, ldI, ldA, stI, stA, inc, gtF, ptF, ldX, stX, ldR, ldL, stL, dp1, dp2, Tm, kS0, kS1, kS2, kS3, kS4, kS5, kS6, kS7, kS8, kS9, kS10, kS11, kS12, kS13, kS14, kS15, kS16, kS17, kS18, kS19, kS20, kS21, kS22, kS23, kS24, kS25, kS26, kS27, kS28, kS30, kS31, kS32, kS33, kS34, kS35, kS36, kS37, kS38, kS39, kS40, kS41, kS42, kS43, kS51, kS52, kS53, List.getElem?_cons_zero, List.getElem?_cons_succ, List.set_cons_zero, List.set_cons_succ, List.length_cons, List.length_nil, List.drop_succ_cons, List.drop_zero, List.cons_append, List.nil_append, Option.toList_some, Option.toList_none, cz, ci2, true_and, and_true, and_self, true_or, or_true, nI_1, Nat.reduceAdd, Nat.reduceLT, hD0]
  refine cv4 rfl rfl (by first | exact rfl | exact trivial) (r31 (w := 2) ha (by decide)) ?_
  refine ev_seg rfl ?_
  simp only [TE, sxs, sx, ldI, ldA, stI, stA, inc, gtF, ptF, ldX, stX, ldR, ldL, stL, dp1, dp2, Tm, kS0, kS1, kS2, kS3, kS4, kS5, kS6, kS7, kS8, kS9, kS10, kS11, kS12, kS13, kS14, kS15, kS16, kS17, kS18, kS19, kS20, kS21, kS22, kS23, kS24, kS25, kS26, kS27, kS28, kS30, kS31, kS32, kS33, kS34, kS35, kS36, kS37, kS38, kS39, kS40, kS41, kS42, kS43, kS51, kS52, kS53, List.getElem?_cons_zero, List.getElem?_cons_succ, List.set_cons_zero, List.set_cons_succ, List.length_cons, List.length_nil, List.drop_succ_cons, List.drop_zero, List.cons_append, List.nil_append, Option.toList_some, Option.toList_none, cz, ci2, true_and, and_true, and_self, true_or, or_true, nI_1, Nat.reduceAdd, Nat.reduceLT]
  refine cv4 rfl rfl (by first | exact rfl | exact trivial) (r31 (w := 2) ha' (by decide)) ?_
  rw [show fW3 2 = gF9 from rfl]
  refine ev_seg rfl ?_
  simp only [TE, sxs, sx, ldI, ldA, stI, stA, inc, gtF, ptF, ldX, stX, ldR, ldL, stL, dp1, dp2, Tm, kS0, kS1, kS2, kS3, kS4, kS5, kS6, kS7, kS8, kS9, kS10, kS11, kS12, kS13, kS14, kS15, kS16, kS17, kS18, kS19, kS20, kS21, kS22, kS23, kS24, kS25, kS26, kS27, kS28, kS30, kS31, kS32, kS33, kS34, kS35, kS36, kS37, kS38, kS39, kS40, kS41, kS42, kS43, kS51, kS52, kS53, List.getElem?_cons_zero, List.getElem?_cons_succ, List.set_cons_zero, List.set_cons_succ, List.length_cons, List.length_nil, List.drop_succ_cons, List.drop_zero, List.cons_append, List.nil_append, Option.toList_some, Option.toList_none, cz, ci2, true_and, and_true, and_self, true_or, or_true, nI_1, Nat.reduceAdd, Nat.reduceLT, hD1, e35]
  refine ⟨⟨v2, v1, v2, v1⟩, fun w => ?_, fun w => ?_⟩
  · have hd : nI (b + a') - nI (b + a) = D3 := by
      rw [← hD3, if_pos (show loM X b a' = loM X b a from w)]
    refine ev_seg rfl ?_
    simp only [TE, sxs, sx, ldI, ldA, stI, stA, inc, gtF, ptF, ldX, stX, ldR, ldL, stL, dp1, dp2, Tm, kS0, kS1, kS2, kS3, kS4, kS5, kS6, kS7, kS8, kS9, kS10, kS11, kS12, kS13, kS14, kS15, kS16, kS17, kS18, kS19, kS20, kS21, kS22, kS23, kS24, kS25, kS26, kS27, kS28, kS30, kS31, kS32, kS33, kS34, kS35, kS36, kS37, kS38, kS39, kS40, kS41, kS42, kS43, kS51, kS52, kS53, List.getElem?_cons_zero, List.getElem?_cons_succ, List.set_cons_zero, List.set_cons_succ, List.length_cons, List.length_nil, List.drop_succ_cons, List.drop_zero, List.cons_append, List.nil_append, Option.toList_some, Option.toList_none, cz, ci2, true_and, and_true, and_self, true_or, or_true, nI_1, Nat.reduceAdd, Nat.reduceLT, hd]
    exact mid
  · have hd : X.1 36 0 0 (nI (b + a')) - X.1 36 0 0 (nI (b + a)) = D3 := by
      rw [← hD3, if_neg (show ¬ loM X b a' = loM X b a from w)]
      rfl
    refine ev_seg rfl ?_
    simp only [TE, sxs, sx, ldI, ldA, stI, stA, inc, gtF, ptF, ldX, stX, ldR, ldL, stL, dp1, dp2, Tm, kS0, kS1, kS2, kS3, kS4, kS5, kS6, kS7, kS8, kS9, kS10, kS11, kS12, kS13, kS14, kS15, kS16, kS17, kS18, kS19, kS20, kS21, kS22, kS23, kS24, kS25, kS26, kS27, kS28, kS30, kS31, kS32, kS33, kS34, kS35, kS36, kS37, kS38, kS39, kS40, kS41, kS42, kS43, kS51, kS52, kS53, List.getElem?_cons_zero, List.getElem?_cons_succ, List.set_cons_zero, List.set_cons_succ, List.length_cons, List.length_nil, List.drop_succ_cons, List.drop_zero, List.cons_append, List.nil_append, Option.toList_some, Option.toList_none, cz, ci2, true_and, and_true, and_self, true_or, or_true, nI_1, Nat.reduceAdd, Nat.reduceLT, hd]
    exact ⟨⟨v2, v1⟩, mid⟩
/-- the marks among the tied -/
def tR (X : XT) (a k : Nat) : Int32 := X.1 41 0 0 (nI (3 * a + k))
theorem s_MtiedRule {a a' : Nat} (ha : a < 5) (ha' : a' < 5) (hb : ∀ k, k < 3 → (∃ z, tR X a k = zI z ∧ -1000 ≤ z ∧ z ≤ 1000) ∧ ∃ z, tR X a' k = zI z ∧ -1000 ≤ z ∧ z ≤ 1000) : Ev sc d 111 0 (ent 111 [vR 30 0 0, vI (nI a), vI (nI a')]) [] X (.inl (some (.inl (if fa (tR X a) (tR X a') 3 = 3 then 0 else sgR (tR X a) (tR X a') 3 1)))) X 0 := by
  have hdif : ∀ k, k < 3 → DIF (tR X a k - tR X a' k) (tR X a k) (tR X a' k) := by
    intro k hk
    obtain ⟨⟨z, z1, z2, z3⟩, y, y1, y2, y3⟩ := hb k hk
    exact DIF.mk (x := z) (y := y) z1 y1 (by omega) (by omega) (w := z - y) (by rw [z1, y1, ← Int32.ofInt_sub]) (by omega) (by omega) (by omega)
  have step : ∀ (k : Nat) (f v : Int32) (z5 : AV), k < 3 →
      (∀ z5, Ev sc d 111 1 [vR 30 0 0, vI (nI a), vI (nI a'), vI (if tR X a k - tR X a' k ≤ 0 then (if tR X a k - tR X a' k = 0 then f else -nI (k + 1)) else nI (k + 1)), vI (nI k + -1), z5] [] X (.inl (some (.inl v))) X 0) →
      Ev sc d 111 1 [vR 30 0 0, vI (nI a), vI (nI a'), vI f, vI (nI k), z5] [] X (.inl (some (.inl v))) X 0 := by
    intro k f v z5 hk hn
    have v1 : vp_in (nI (3 * a + k)) 15 := vpn (by omega) (by decide)
    have v2 : vp_in (nI (3 * a' + k)) 15 := vpn (by omega) (by decide)
    have e1 : 3 * nI a + nI k = nI (3 * a + k) := by rw [show (3 : Int32) = nI 3 from rfl, nI_ml, nI_ad]
    have e2 : 3 * nI a' + nI k = nI (3 * a' + k) := by rw [show (3 : Int32) = nI 3 from rfl, nI_ml, nI_ad]
    have e3 : X.1 41 0 0 (nI (3 * a + k)) - X.1 41 0 0 (nI (3 * a' + k)) = tR X a k - tR X a' k := rfl
    have hn := hn (vI (tR X a k - tR X a' k))
    refine ev_seg rfl ?_
    simp only [TE, sxs, sx, ldI, ldA, stI, stA, inc, gtF, ptF, ldX, stX, ldR, ldL, stL, dp1, dp2, Tm, kS0, kS1, kS2, kS3, kS4, kS5, kS6, kS7, kS8, kS9, kS10, kS11, kS12, kS13, kS14, kS15, kS16, kS17, kS18, kS19, kS20, kS21, kS22, kS23, kS24, kS25, kS26, kS27, kS28, kS30, kS31, kS32, kS33, kS34, kS35, kS36, kS37, kS38, kS39, kS40, kS41, kS42, kS43, kS51, kS52, kS53, List.getElem?_cons_zero, List.getElem?_cons_succ, List.set_cons_zero, List.set_cons_succ, List.length_cons, List.length_nil, List.drop_succ_cons, List.drop_zero, List.cons_append, List.nil_append, Option.toList_some, Option.toList_none, cz, ci2, true_and, and_true, and_self, true_or, or_true, nI_1, Nat.reduceAdd, Nat.reduceLT]
    refine ⟨fun w => absurd w (i_nlt (nleI (a := 0) (Nat.zero_le _) (by omega))), fun _ => ?_⟩
    refine ev_seg rfl ?_
    simp only [TE, sxs, sx, ldI, ldA, stI, stA, inc, gtF, ptF, ldX, stX, ldR, ldL, stL, dp1, dp2, Tm, kS0, kS1, kS2, kS3, kS4, kS5, kS6, kS7, kS8, kS9, kS10, kS11, kS12, kS13, kS14, kS15, kS16, kS17, kS18, kS19, kS20, kS21, kS22, kS23, kS24, kS25, kS26, kS27, kS28, kS30, kS31, kS32, kS33, kS34, kS35, kS36, kS37, kS38, kS39, kS40, kS41, kS42, kS43, kS51, kS52, kS53, List.getElem?_cons_zero, List.getElem?_cons_succ, List.set_cons_zero, List.set_cons_succ, List.length_cons, List.length_nil, List.drop_succ_cons, List.drop_zero, List.cons_append, List.nil_append, Option.toList_some, Option.toList_none, cz, ci2, true_and, and_true, and_self, true_or, or_true, nI_1, Nat.reduceAdd, Nat.reduceLT, e1, e2, e3]
    refine ⟨⟨v1, v2⟩, fun w => ?_, fun w => ?_⟩
    · rw [if_pos w] at hn
      refine ev_seg rfl ?_
      simp only [TE, sxs, sx, ldI, ldA, stI, stA, inc, gtF, ptF, ldX, stX, ldR, ldL, stL, dp1, dp2, Tm, kS0, kS1, kS2, kS3, kS4, kS5, kS6, kS7, kS8, kS9, kS10, kS11, kS12, kS13, kS14, kS15, kS16, kS17, kS18, kS19, kS20, kS21, kS22, kS23, kS24, kS25, kS26, kS27, kS28, kS30, kS31, kS32, kS33, kS34, kS35, kS36, kS37, kS38, kS39, kS40, kS41, kS42, kS43, kS51, kS52, kS53, List.getElem?_cons_zero, List.getElem?_cons_succ, List.set_cons_zero, List.set_cons_succ, List.length_cons, List.length_nil, List.drop_succ_cons, List.drop_zero, List.cons_append, List.nil_append, Option.toList_some, Option.toList_none, cz, ci2, true_and, and_true, and_self, true_or, or_true, nI_1, Nat.reduceAdd, Nat.reduceLT]
      refine ⟨fun w2 => ?_, fun w2 => ?_⟩
      · rw [if_pos ?_] at hn
        · refine ev_seg rfl ?_
          simp only [TE, sxs, sx, ldI, ldA, stI, stA, inc, gtF, ptF, ldX, stX, ldR, ldL, stL, dp1, dp2, Tm, kS0, kS1, kS2, kS3, kS4, kS5, kS6, kS7, kS8, kS9, kS10, kS11, kS12, kS13, kS14, kS15, kS16, kS17, kS18, kS19, kS20, kS21, kS22, kS23, kS24, kS25, kS26, kS27, kS28, kS30, kS31, kS32, kS33, kS34, kS35, kS36, kS37, kS38, kS39, kS40, kS41, kS42, kS43, kS51, kS52, kS53, List.getElem?_cons_zero, List.getElem?_cons_succ, List.set_cons_zero, List.set_cons_succ, List.length_cons, List.length_nil, List.drop_succ_cons, List.drop_zero, List.cons_append, List.nil_append, Option.toList_some, Option.toList_none, cz, ci2, true_and, and_true, and_self, true_or, or_true, nI_1, Nat.reduceAdd, Nat.reduceLT]
          refine ev_seg rfl ?_
          simp only [TE, sxs, sx, ldI, ldA, stI, stA, inc, gtF, ptF, ldX, stX, ldR, ldL, stL, dp1, dp2, Tm, kS0, kS1, kS2, kS3, kS4, kS5, kS6, kS7, kS8, kS9, kS10, kS11, kS12, kS13, kS14, kS15, kS16, kS17, kS18, kS19, kS20, kS21, kS22, kS23, kS24, kS25, kS26, kS27, kS28, kS30, kS31, kS32, kS33, kS34, kS35, kS36, kS37, kS38, kS39, kS40, kS41, kS42, kS43, kS51, kS52, kS53, List.getElem?_cons_zero, List.getElem?_cons_succ, List.set_cons_zero, List.set_cons_succ, List.length_cons, List.length_nil, List.drop_succ_cons, List.drop_zero, List.cons_append, List.nil_append, Option.toList_some, Option.toList_none, cz, ci2, true_and, and_true, and_self, true_or, or_true, nI_1, Nat.reduceAdd, Nat.reduceLT]
          exact hn
        · have : tR X a k - tR X a' k ≤ 0 := w
          rw [Int32.le_iff_toInt_le] at w w2
          exact Int32.toInt_inj.mp (by omega)
      · rw [if_neg (fun e => w2 (by rw [e]; exact Int32.le_refl _))] at hn
        refine ev_seg rfl ?_
        simp only [TE, sxs, sx, ldI, ldA, stI, stA, inc, gtF, ptF, ldX, stX, ldR, ldL, stL, dp1, dp2, Tm, kS0, kS1, kS2, kS3, kS4, kS5, kS6, kS7, kS8, kS9, kS10, kS11, kS12, kS13, kS14, kS15, kS16, kS17, kS18, kS19, kS20, kS21, kS22, kS23, kS24, kS25, kS26, kS27, kS28, kS30, kS31, kS32, kS33, kS34, kS35, kS36, kS37, kS38, kS39, kS40, kS41, kS42, kS43, kS51, kS52, kS53, List.getElem?_cons_zero, List.getElem?_cons_succ, List.set_cons_zero, List.set_cons_succ, List.length_cons, List.length_nil, List.drop_succ_cons, List.drop_zero, List.cons_append, List.nil_append, Option.toList_some, Option.toList_none, cz, ci2, true_and, and_true, and_self, true_or, or_true, nI_1, Nat.reduceAdd, Nat.reduceLT]
        refine ev_seg rfl ?_
        simp only [TE, sxs, sx, ldI, ldA, stI, stA, inc, gtF, ptF, ldX, stX, ldR, ldL, stL, dp1, dp2, Tm, kS0, kS1, kS2, kS3, kS4, kS5, kS6, kS7, kS8, kS9, kS10, kS11, kS12, kS13, kS14, kS15, kS16, kS17, kS18, kS19, kS20, kS21, kS22, kS23, kS24, kS25, kS26, kS27, kS28, kS30, kS31, kS32, kS33, kS34, kS35, kS36, kS37, kS38, kS39, kS40, kS41, kS42, kS43, kS51, kS52, kS53, List.getElem?_cons_zero, List.getElem?_cons_succ, List.set_cons_zero, List.set_cons_succ, List.length_cons, List.length_nil, List.drop_succ_cons, List.drop_zero, List.cons_append, List.nil_append, Option.toList_some, Option.toList_none, cz, ci2, true_and, and_true, and_self, true_or, or_true, nI_1, Nat.reduceAdd, Nat.reduceLT]
        exact hn
    · rw [if_neg w] at hn
      refine ev_seg rfl ?_
      simp only [TE, sxs, sx, ldI, ldA, stI, stA, inc, gtF, ptF, ldX, stX, ldR, ldL, stL, dp1, dp2, Tm, kS0, kS1, kS2, kS3, kS4, kS5, kS6, kS7, kS8, kS9, kS10, kS11, kS12, kS13, kS14, kS15, kS16, kS17, kS18, kS19, kS20, kS21, kS22, kS23, kS24, kS25, kS26, kS27, kS28, kS30, kS31, kS32, kS33, kS34, kS35, kS36, kS37, kS38, kS39, kS40, kS41, kS42, kS43, kS51, kS52, kS53, List.getElem?_cons_zero, List.getElem?_cons_succ, List.set_cons_zero, List.set_cons_succ, List.length_cons, List.length_nil, List.drop_succ_cons, List.drop_zero, List.cons_append, List.nil_append, Option.toList_some, Option.toList_none, cz, ci2, true_and, and_true, and_self, true_or, or_true, nI_1, Nat.reduceAdd, Nat.reduceLT]
      refine ev_seg rfl ?_
      simp only [TE, sxs, sx, ldI, ldA, stI, stA, inc, gtF, ptF, ldX, stX, ldR, ldL, stL, dp1, dp2, Tm, kS0, kS1, kS2, kS3, kS4, kS5, kS6, kS7, kS8, kS9, kS10, kS11, kS12, kS13, kS14, kS15, kS16, kS17, kS18, kS19, kS20, kS21, kS22, kS23, kS24, kS25, kS26, kS27, kS28, kS30, kS31, kS32, kS33, kS34, kS35, kS36, kS37, kS38, kS39, kS40, kS41, kS42, kS43, kS51, kS52, kS53, List.getElem?_cons_zero, List.getElem?_cons_succ, List.set_cons_zero, List.set_cons_succ, List.length_cons, List.length_nil, List.drop_succ_cons, List.drop_zero, List.cons_append, List.nil_append, Option.toList_some, Option.toList_none, cz, ci2, true_and, and_true, and_self, true_or, or_true, nI_1, Nat.reduceAdd, Nat.reduceLT]
      exact hn
  have last : ∀ (f : Int32) (z5 : AV), Ev sc d 111 1 [vR 30 0 0, vI (nI a), vI (nI a'), vI f, vI (nI 0 + -1), z5] [] X (.inl (some (.inl f))) X 0 := by
    intro f z5
    refine ev_seg rfl ?_
    simp only [TE, sxs, sx, ldI, ldA, stI, stA, inc, gtF, ptF, ldX, stX, ldR, ldL, stL, dp1, dp2, Tm, kS0, kS1, kS2, kS3, kS4, kS5, kS6, kS7, kS8, kS9, kS10, kS11, kS12, kS13, kS14, kS15, kS16, kS17, kS18, kS19, kS20, kS21, kS22, kS23, kS24, kS25, kS26, kS27, kS28, kS30, kS31, kS32, kS33, kS34, kS35, kS36, kS37, kS38, kS39, kS40, kS41, kS42, kS43, kS51, kS52, kS53, List.getElem?_cons_zero, List.getElem?_cons_succ, List.set_cons_zero, List.set_cons_succ, List.length_cons, List.length_nil, List.drop_succ_cons, List.drop_zero, List.cons_append, List.nil_append, Option.toList_some, Option.toList_none, cz, ci2, true_and, and_true, and_self, true_or, or_true, nI_1, Nat.reduceAdd, Nat.reduceLT]
    refine ⟨fun _ => ?_, fun w => absurd (by decide) w⟩
    refine ev_seg rfl ?_
    simp only [TE, sxs, sx, ldI, ldA, stI, stA, inc, gtF, ptF, ldX, stX, ldR, ldL, stL, dp1, dp2, Tm, kS0, kS1, kS2, kS3, kS4, kS5, kS6, kS7, kS8, kS9, kS10, kS11, kS12, kS13, kS14, kS15, kS16, kS17, kS18, kS19, kS20, kS21, kS22, kS23, kS24, kS25, kS26, kS27, kS28, kS30, kS31, kS32, kS33, kS34, kS35, kS36, kS37, kS38, kS39, kS40, kS41, kS42, kS43, kS51, kS52, kS53, List.getElem?_cons_zero, List.getElem?_cons_succ, List.set_cons_zero, List.set_cons_succ, List.length_cons, List.length_nil, List.drop_succ_cons, List.drop_zero, List.cons_append, List.nil_append, Option.toList_some, Option.toList_none, cz, ci2, true_and, and_true, and_self, true_or, or_true, nI_1, Nat.reduceAdd, Nat.reduceLT]
  rw [en111]
  refine ev_seg rfl ?_
  simp only [TE, sxs, sx, ldI, ldA, stI, stA, inc, gtF, ptF, ldX, stX, ldR, ldL, stL, dp1, dp2, Tm, kS0, kS1, kS2, kS3, kS4, kS5, kS6, kS7, kS8, kS9, kS10, kS11, kS12, kS13, kS14, kS15, kS16, kS17, kS18, kS19, kS20, kS21, kS22, kS23, kS24, kS25, kS26, kS27, kS28, kS30, kS31, kS32, kS33, kS34, kS35, kS36, kS37, kS38, kS39, kS40, kS41, kS42, kS43, kS51, kS52, kS53, List.getElem?_cons_zero, List.getElem?_cons_succ, List.set_cons_zero, List.set_cons_succ, List.length_cons, List.length_nil, List.drop_succ_cons, List.drop_zero, List.cons_append, List.nil_append, Option.toList_some, Option.toList_none, cz, ci2, true_and, and_true, and_self, true_or, or_true, nI_1, Nat.reduceAdd, Nat.reduceLT]
  refine step 2 0 _ _ (by decide) fun z5 => ?_
  refine step 1 _ _ _ (by decide) fun z5 => ?_
  refine step 0 _ _ _ (by decide) fun z5 => ?_
  have hv : (if fa (tR X a) (tR X a') 3 = 3 then 0 else sgR (tR X a) (tR X a') 3 1) = (if tR X a 0 - tR X a' 0 ≤ 0 then (if tR X a 0 - tR X a' 0 = 0 then (if tR X a 1 - tR X a' 1 ≤ 0 then (if tR X a 1 - tR X a' 1 = 0 then (if tR X a 2 - tR X a' 2 ≤ 0 then (if tR X a 2 - tR X a' 2 = 0 then 0 else -nI (2 + 1)) else nI (2 + 1)) else -nI (1 + 1)) else nI (1 + 1)) else -nI (0 + 1)) else nI (0 + 1)) := by
    have q0 := hdif 0 (by decide)
    have q1 := hdif 1 (by decide)
    have q2 := hdif 2 (by decide)
    have nf : ∀ k, k < 3 → ¬ tR X a k - tR X a' k = 0 → ¬ fa (tR X a) (tR X a') 3 = 3 := fun k hk hne w => hne ((hdif k hk).1.mpr (fa_all.mp w k hk))
    by_cases w0 : tR X a 0 - tR X a' 0 = 0
    · rw [if_pos (c := tR X a 0 - tR X a' 0 ≤ 0) (by rw [w0]; exact Int32.le_refl _), if_pos w0]
      by_cases w1 : tR X a 1 - tR X a' 1 = 0
      · rw [if_pos (c := tR X a 1 - tR X a' 1 ≤ 0) (by rw [w1]; exact Int32.le_refl _), if_pos w1]
        by_cases w2 : tR X a 2 - tR X a' 2 = 0
        · rw [if_pos (c := tR X a 2 - tR X a' 2 ≤ 0) (by rw [w2]; exact Int32.le_refl _), if_pos w2, if_pos (fa_all.mpr fun c hc => by
            rcases (show c = 0 ∨ c = 1 ∨ c = 2 by omega) with rfl | rfl | rfl
            · exact q0.1.mp w0
            · exact q1.1.mp w1
            · exact q2.1.mp w2)]
        · rw [if_neg (nf 2 (by decide) w2), sgR_at (k := 2) (by decide) (fun c hc => by
            rcases (show c = 0 ∨ c = 1 by omega) with rfl | rfl
            · exact q0.1.mp w0
            · exact q1.1.mp w1) q2 w2, if_neg w2]
      · rw [if_neg (nf 1 (by decide) w1), sgR_at (k := 1) (by decide) (fun c hc => by
          rcases (show c = 0 by omega) with rfl
          exact q0.1.mp w0) q1 w1, if_neg w1]
    · rw [if_neg (nf 0 (by decide) w0), sgR_at (k := 0) (by decide) (fun c hc => absurd hc (by omega)) q0 w0, if_neg w0]
  rw [hv]
  exact last _ _
end Mrl
