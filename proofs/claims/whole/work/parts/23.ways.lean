/-! the ways of a group -/
section Wys
variable {sc : SC} {d : Nat} {g : Int32} {X : XT}
/-- whether a team is passed when the points are these -/
def psd (n w pl mg : Nat) (γ : Nat → Int) : Bool := decide (pl ≤ ct (fun s => decide (s ≠ w) && decide (γ w + mg ≤ γ s)) n)
def cn3 (f : Nat → Nat) : Nat → Nat
  | 0 => 0
  | q + 1 => f (2 - q) + cn3 f q
def lo3 (f : Nat → Option Nat) (m : Nat) : Nat → Option Nat
  | 0 => none
  | q + 1 => match f (2 - q) with
    | some x => some ((2 - q) * m + x)
    | none => lo3 f m q
/-- how many ways of the matches there are in which the points pass -/
def cntL (pass : (Nat → Int) → Bool) : List (Nat × Nat) → (Nat → Int) → Nat
  | [], γ => if pass γ = true then 1 else 0
  | p :: R, γ => cn3 (fun o => cntL pass R (gpl γ p o)) 3
/-- the lowest of these ways; the first match of the list weighs most -/
def lowL (pass : (Nat → Int) → Bool) : List (Nat × Nat) → (Nat → Int) → Option Nat
  | [], γ => if pass γ = true then some 0 else none
  | p :: R, γ => lo3 (fun o => lowL pass R (gpl γ p o)) (3 ^ R.length) 3
/-- how many of the matches a team plays -/
def rem : List (Nat × Nat) → Nat → Int
  | [], _ => 0
  | p :: R, s => rem R s + (if s = p.1 then 1 else 0) + (if s = p.2 then 1 else 0)
theorem rem_bd : ∀ (R : List (Nat × Nat)) (s : Nat), 0 ≤ rem R s ∧ rem R s ≤ 2 * R.length
  | [], _ => ⟨Int.le_refl _, Int.le_refl _⟩
  | p :: R, s => by
    have := rem_bd R s
    rw [rem, List.length_cons]
    constructor <;> split <;> split <;> omega
theorem dpl_rem (p : Nat × Nat) (R : List (Nat × Nat)) : dpl (rem (p :: R)) p = rem R := by
  funext s
  unfold dpl ad1
  rw [rem]
  split <;> split <;> omega
def rem1 (p : Nat × Nat) (s : Nat) : Int := (if s = p.1 then 1 else 0) + (if s = p.2 then 1 else 0)
theorem rem_c (p : Nat × Nat) (R : List (Nat × Nat)) (s : Nat) : rem (p :: R) s = rem R s + rem1 p s := by
  rw [rem, rem1]
  omega
theorem lowG_bd (o : Nat) : 0 ≤ lowG o ∧ lowG o ≤ 3 ∧ 0 ≤ upG o ∧ upG o ≤ 3 := by
  unfold lowG upG
  split
  · decide
  · split <;> decide
theorem gpl_bd {p : Nat × Nat} (hp : p.1 ≠ p.2) {o : Nat} (γ : Nat → Int) (s : Nat) : γ s ≤ gpl γ p o s ∧ gpl γ p o s ≤ γ s + 3 * rem1 p s ∧ gpl γ p o s ≤ γ s + 3 := by
  have h := lowG_bd o
  unfold gpl ad1 rem1
  by_cases h1 : s = p.1
  · rw [if_pos h1, if_pos h1, if_neg (fun h2 => hp (h1.symm.trans h2)), if_neg (fun h2 => hp (h1.symm.trans h2))]
    omega
  · rw [if_neg h1, if_neg h1]
    by_cases h2 : s = p.2
    · rw [if_pos h2, if_pos h2]
      omega
    · rw [if_neg h2, if_neg h2]
      omega
theorem cn3_le {f : Nat → Nat} {m : Nat} (h : ∀ o, o < 3 → f o ≤ m) : cn3 f 3 ≤ 3 * m := by
  have h0 := h 0 (by decide)
  have h1 := h 1 (by decide)
  have h2 := h 2 (by decide)
  show f 0 + (f 1 + (f 2 + 0)) ≤ _
  omega
theorem cntL_le (pass : (Nat → Int) → Bool) : ∀ (R : List (Nat × Nat)) (γ : Nat → Int), cntL pass R γ ≤ 3 ^ R.length
  | [], γ => by
    rw [cntL]
    split <;> simp
  | p :: R, γ => by
    rw [cntL, List.length_cons, Nat.pow_succ, Nat.mul_comm]
    exact cn3_le (fun o _ => cntL_le pass R _)
theorem lo3_lt {f : Nat → Option Nat} {m : Nat} (h : ∀ o x, o < 3 → f o = some x → x < m) {x : Nat} (hx : lo3 f m 3 = some x) : x < 3 * m := by
  have hx : (match f 0 with
    | some x => some (0 * m + x)
    | none => match f 1 with
      | some x => some (1 * m + x)
      | none => match f 2 with
        | some x => some (2 * m + x)
        | none => none) = some x := hx
  cases h0 : f 0 with
  | some y =>
    rw [h0] at hx
    have := h 0 y (by decide) h0
    have hx := Option.some.inj hx
    omega
  | none =>
    rw [h0] at hx
    cases h1 : f 1 with
    | some y =>
      rw [h1] at hx
      have := h 1 y (by decide) h1
      have hx := Option.some.inj hx
      omega
    | none =>
      rw [h1] at hx
      cases h2 : f 2 with
      | some y =>
        rw [h2] at hx
        have := h 2 y (by decide) h2
        have hx := Option.some.inj hx
        omega
      | none =>
        rw [h2] at hx
        cases hx
theorem lowL_lt (pass : (Nat → Int) → Bool) : ∀ (R : List (Nat × Nat)) (γ : Nat → Int) (x : Nat), lowL pass R γ = some x → x < 3 ^ R.length
  | [], γ, x, h => by
    rw [lowL] at h
    split at h
    · cases h; decide
    · cases h
  | p :: R, γ, x, h => by
    rw [lowL] at h
    rw [List.length_cons, Nat.pow_succ, Nat.mul_comm]
    exact lo3_lt (fun o x _ hx => lowL_lt pass R _ x hx) h
/-- passed, however the rest ends -/
theorem all_pass {n w pl mg : Nat} : ∀ (R : List (Nat × Nat)) (γ : Nat → Int), (∀ p, p ∈ R → p.1 ≠ p.2) → pl ≤ ct (fun s => decide (s ≠ w) && decide (γ w + 3 * rem R w + mg ≤ γ s)) n → cntL (psd n w pl mg) R γ = 3 ^ R.length ∧ lowL (psd n w pl mg) R γ = some 0
  | [], γ, _, h => by
    have e1 : psd n w pl mg γ = true := by
      unfold psd
      rw [decide_eq_true_eq]
      refine Nat.le_trans h (Nat.le_of_eq (ct_congr fun s _ => ?_))
      rw [rem]
      simp
    rw [cntL, lowL, if_pos e1, if_pos e1]
    exact ⟨rfl, rfl⟩
  | p :: R, γ, hp, h => by
    have hne := hp p (List.mem_cons_self ..)
    have step : ∀ o, cntL (psd n w pl mg) R (gpl γ p o) = 3 ^ R.length ∧ lowL (psd n w pl mg) R (gpl γ p o) = some 0 := by
      intro o
      refine all_pass R _ (fun q hq => hp q (List.mem_cons_of_mem _ hq)) (Nat.le_trans h (ct_mono fun s _ hs => ?_))
      rw [Bool.and_eq_true, decide_eq_true_eq, decide_eq_true_eq] at hs ⊢
      refine ⟨hs.1, ?_⟩
      have h1 := gpl_bd hne (o := o) γ w
      have h2 := gpl_bd hne (o := o) γ s
      have h3 := hs.2
      rw [rem_c] at h3
      omega
    constructor
    · rw [cntL, List.length_cons, Nat.pow_succ]
      show cntL (psd n w pl mg) R (gpl γ p 0) + (cntL (psd n w pl mg) R (gpl γ p 1) + (cntL (psd n w pl mg) R (gpl γ p 2) + 0)) = _
      rw [(step 0).1, (step 1).1, (step 2).1]
      omega
    · rw [lowL]
      show (match lowL (psd n w pl mg) R (gpl γ p 0) with
        | some x => some ((2 - 2) * 3 ^ R.length + x)
        | none => lo3 (fun o => lowL (psd n w pl mg) R (gpl γ p o)) (3 ^ R.length) 2) = _
      rw [(step 0).2]
      simp
/-- not passed, however the rest ends -/
theorem none_pass {n w pl mg : Nat} : ∀ (R : List (Nat × Nat)) (γ : Nat → Int), (∀ p, p ∈ R → p.1 ≠ p.2) → ¬ pl ≤ ct (fun s => decide (s ≠ w) && decide (γ w + mg ≤ γ s + 3 * rem R s)) n → cntL (psd n w pl mg) R γ = 0 ∧ lowL (psd n w pl mg) R γ = none
  | [], γ, _, h => by
    have e1 : ¬ psd n w pl mg γ = true := by
      unfold psd
      rw [decide_eq_true_eq]
      intro h2
      refine h (Nat.le_trans h2 (Nat.le_of_eq (ct_congr fun s _ => ?_)))
      rw [rem]
      simp
    rw [cntL, lowL, if_neg e1, if_neg e1]
    exact ⟨rfl, rfl⟩
  | p :: R, γ, hp, h => by
    have hne := hp p (List.mem_cons_self ..)
    have step : ∀ o, cntL (psd n w pl mg) R (gpl γ p o) = 0 ∧ lowL (psd n w pl mg) R (gpl γ p o) = none := by
      intro o
      refine none_pass R _ (fun q hq => hp q (List.mem_cons_of_mem _ hq)) (fun h9 => h (Nat.le_trans h9 (ct_mono fun s _ hs => ?_)))
      rw [Bool.and_eq_true, decide_eq_true_eq, decide_eq_true_eq] at hs ⊢
      refine ⟨hs.1, ?_⟩
      have h1 := gpl_bd hne (o := o) γ w
      have h2 := gpl_bd hne (o := o) γ s
      have h3 := hs.2
      rw [rem_c]
      omega
    constructor
    · rw [cntL]
      show cntL (psd n w pl mg) R (gpl γ p 0) + (cntL (psd n w pl mg) R (gpl γ p 1) + (cntL (psd n w pl mg) R (gpl γ p 2) + 0)) = _
      rw [(step 0).1, (step 1).1, (step 2).1]
    · rw [lowL]
      show (match lowL (psd n w pl mg) R (gpl γ p 0) with
        | some x => some ((2 - 2) * 3 ^ R.length + x)
        | none => match lowL (psd n w pl mg) R (gpl γ p 1) with
          | some x => some ((2 - 1) * 3 ^ R.length + x)
          | none => match lowL (psd n w pl mg) R (gpl γ p 2) with
            | some x => some ((2 - 0) * 3 ^ R.length + x)
            | none => none) = _
      rw [(step 0).2, (step 1).2, (step 2).2]
theorem take_rev {L : List (Nat × Nat)} {k : Nat} (hk : k < L.length) : (L.take (k + 1)).reverse = L[k] :: (L.take k).reverse := by
  rw [List.take_succ_eq_append_getElem hk, List.reverse_append]
  rfl
theorem nI_pr (k : Nat) : nI (k + 1) - 1 = nI k := by
  rw [zI_n, zI_n, show (1 : Int32) = zI 1 from rfl, ← Int32.ofInt_sub]
  congr 1
  omega
theorem nI_ad (a b : Nat) : nI a + nI b = nI (a + b) := (Int32.ofNat_add a b).symm
theorem nI_ml (a b : Nat) : nI a * nI b = nI (a * b) := (Int32.ofNat_mul a b).symm
theorem nI_m3 (a : Nat) : nI a * 3 = nI (a * 3) := nI_ml a 3
/-- how many ways so many matches have -/
theorem s_waysOf {k : Nat} (hk : k ≤ 10) : Ev sc d 167 0 (ent 167 [vI (nI k)]) [] X (.inl (some (.inl (nI (3 ^ k))))) X 0 := by
  have loop : ∀ p, p ≤ k → Ev sc d 167 1 [vI (nI k), vI (nI (3 ^ p)), vI (nI p)] [] X (.inl (some (.inl (nI (3 ^ k))))) X 0 := by
    apply loop_up
    · refine ev_seg rfl ?_
      simp only [TE, sxs, sx, ldI, ldA, stI, stA, inc, gtF, ptF, ldX, stX, ldR, ldL, stL, dp1, dp2, Tm, kS0, kS1, kS2, kS3, kS4, kS5, kS6, kS7, kS8, kS9, kS10, kS11, kS12, kS13, kS14, kS15, kS16, kS17, kS18, kS19, kS20, kS21, kS22, kS23, kS24, kS25, kS26, kS27, kS28, kS30, kS31, kS32, kS33, kS34, kS35, kS36, kS37, kS38, kS39, kS40, kS41, kS42, kS43, kS51, kS52, kS53, List.getElem?_cons_zero, List.getElem?_cons_succ, List.set_cons_zero, List.set_cons_succ, List.length_cons, List.length_nil, List.drop_succ_cons, List.drop_zero, List.cons_append, List.nil_append, Option.toList_some, Option.toList_none, cz, ci2, true_and, and_true, and_self, true_or, or_true, nI_1, Nat.reduceAdd, Nat.reduceLT]
      refine ⟨fun _ => ?_, fun h => absurd (nleI (Nat.le_refl _) (by omega)) h⟩
      refine ev_seg rfl ?_
      simp only [TE, sxs, sx, ldI, ldA, stI, stA, inc, gtF, ptF, ldX, stX, ldR, ldL, stL, dp1, dp2, Tm, kS0, kS1, kS2, kS3, kS4, kS5, kS6, kS7, kS8, kS9, kS10, kS11, kS12, kS13, kS14, kS15, kS16, kS17, kS18, kS19, kS20, kS21, kS22, kS23, kS24, kS25, kS26, kS27, kS28, kS30, kS31, kS32, kS33, kS34, kS35, kS36, kS37, kS38, kS39, kS40, kS41, kS42, kS43, kS51, kS52, kS53, List.getElem?_cons_zero, List.getElem?_cons_succ, List.set_cons_zero, List.set_cons_succ, List.length_cons, List.length_nil, List.drop_succ_cons, List.drop_zero, List.cons_append, List.nil_append, Option.toList_some, Option.toList_none, cz, ci2, true_and, and_true, and_self, true_or, or_true, nI_1, Nat.reduceAdd, Nat.reduceLT]
    · intro p hp ih
      rw [Nat.pow_succ] at ih
      refine ev_seg rfl ?_
      simp only [TE, sxs, sx, ldI, ldA, stI, stA, inc, gtF, ptF, ldX, stX, ldR, ldL, stL, dp1, dp2, Tm, kS0, kS1, kS2, kS3, kS4, kS5, kS6, kS7, kS8, kS9, kS10, kS11, kS12, kS13, kS14, kS15, kS16, kS17, kS18, kS19, kS20, kS21, kS22, kS23, kS24, kS25, kS26, kS27, kS28, kS30, kS31, kS32, kS33, kS34, kS35, kS36, kS37, kS38, kS39, kS40, kS41, kS42, kS43, kS51, kS52, kS53, List.getElem?_cons_zero, List.getElem?_cons_succ, List.set_cons_zero, List.set_cons_succ, List.length_cons, List.length_nil, List.drop_succ_cons, List.drop_zero, List.cons_append, List.nil_append, Option.toList_some, Option.toList_none, cz, ci2, true_and, and_true, and_self, true_or, or_true, nI_1, Nat.reduceAdd, Nat.reduceLT]
      refine ⟨fun h => absurd h (nle hp (by omega)), fun _ => ?_⟩
      refine ev_seg rfl ?_
      simp only [TE, sxs, sx, ldI, ldA, stI, stA, inc, gtF, ptF, ldX, stX, ldR, ldL, stL, dp1, dp2, Tm, kS0, kS1, kS2, kS3, kS4, kS5, kS6, kS7, kS8, kS9, kS10, kS11, kS12, kS13, kS14, kS15, kS16, kS17, kS18, kS19, kS20, kS21, kS22, kS23, kS24, kS25, kS26, kS27, kS28, kS30, kS31, kS32, kS33, kS34, kS35, kS36, kS37, kS38, kS39, kS40, kS41, kS42, kS43, kS51, kS52, kS53, List.getElem?_cons_zero, List.getElem?_cons_succ, List.set_cons_zero, List.set_cons_succ, List.length_cons, List.length_nil, List.drop_succ_cons, List.drop_zero, List.cons_append, List.nil_append, Option.toList_some, Option.toList_none, cz, ci2, true_and, and_true, and_self, true_or, or_true, nI_1, Nat.reduceAdd, Nat.reduceLT, nI_m3]
      exact ih
  rw [en167]
  refine ev_seg rfl ?_
  simp only [TE, sxs, sx, ldI, ldA, stI, stA, inc, gtF, ptF, ldX, stX, ldR, ldL, stL, dp1, dp2, Tm, kS0, kS1, kS2, kS3, kS4, kS5, kS6, kS7, kS8, kS9, kS10, kS11, kS12, kS13, kS14, kS15, kS16, kS17, kS18, kS19, kS20, kS21, kS22, kS23, kS24, kS25, kS26, kS27, kS28, kS30, kS31, kS32, kS33, kS34, kS35, kS36, kS37, kS38, kS39, kS40, kS41, kS42, kS43, kS51, kS52, kS53, List.getElem?_cons_zero, List.getElem?_cons_succ, List.set_cons_zero, List.set_cons_succ, List.length_cons, List.length_nil, List.drop_succ_cons, List.drop_zero, List.cons_append, List.nil_append, Option.toList_some, Option.toList_none, cz, ci2, true_and, and_true, and_self, true_or, or_true, nI_1, Nat.reduceAdd, Nat.reduceLT]
  exact loop 0 (Nat.zero_le _)
theorem s_waysPassed {n w pl mg : Nat} {L : List (Nat × Nat)} (hn : n ≤ 5) (hw : w < n) (hm : mg ≤ 1) (hp : pl ≤ 2) (hl : L.length ≤ 10) (hL0 : ∀ p, p ∈ L → p.1 < n ∧ p.2 < n ∧ p.1 ≠ p.2) :
    ∀ (k : Nat) (X : XT) (γ : Nat → Int), k ≤ L.length → Lst20 X L → bd n (5000 - 3 * k) γ → OL X n w pl mg γ (rem (L.take k).reverse) →
    ∃ Z, Ev sc (d + 2 + k) 35 0 (ent 35 [vR 19 0 0, vI (nI k)]) [] X (.inl (some (.inl (nI (cntL (psd n w pl mg) (L.take k).reverse γ))))) Z 0 ∧ Fr [23, 24] X Z ∧ OL Z n w pl mg γ (rem (L.take k).reverse) := by
  intro k
  induction k with
  | zero =>
    intro X γ hk hL hg hO
    have hb1 : bd n 10000 γ := fun i hi => by have := hg i hi; omega
    have hb2 : bd n 10000 (rem (L.take 0).reverse) := fun i _ => by
      have := rem_bd (L.take 0).reverse i
      rw [List.length_reverse, List.length_take] at this
      omega
    refine ⟨X, ?_, Fr.rf _ _, hO⟩
    rw [en35]
    refine ev_seg rfl ?_
    simp only [TE, sxs, sx, ldI, ldA, stI, stA, inc, gtF, ptF, ldX, stX, ldR, ldL, stL, dp1, dp2, Tm, kS0, kS1, kS2, kS3, kS4, kS5, kS6, kS7, kS8, kS9, kS10, kS11, kS12, kS13, kS14, kS15, kS16, kS17, kS18, kS19, kS20, kS21, kS22, kS23, kS24, kS25, kS26, kS27, kS28, kS30, kS31, kS32, kS33, kS34, kS35, kS36, kS37, kS38, kS39, kS40, kS41, kS42, kS43, kS51, kS52, kS53, List.getElem?_cons_zero, List.getElem?_cons_succ, List.set_cons_zero, List.set_cons_succ, List.length_cons, List.length_nil, List.drop_succ_cons, List.drop_zero, List.cons_append, List.nil_append, Option.toList_some, Option.toList_none, cz, ci2, true_and, and_true, and_self, true_or, or_true, nI_1, Nat.reduceAdd, Nat.reduceLT]
    refine cv1 rfl rfl (by first | exact rfl | exact trivial) (s_isPassed hO hn hw hm hp hb1 hb2) ?_
    by_cases hc : pl ≤ ct (fun s => decide (s ≠ w) && decide (γ w + 3 * rem (L.take 0).reverse w + mg ≤ γ s)) n
    · rw [bI_t hc, (all_pass _ γ (fun q hq => by simp at hq) hc).1]
      refine ev_seg rfl ?_
      simp only [TE, sxs, sx, ldI, ldA, stI, stA, inc, gtF, ptF, ldX, stX, ldR, ldL, stL, dp1, dp2, Tm, kS0, kS1, kS2, kS3, kS4, kS5, kS6, kS7, kS8, kS9, kS10, kS11, kS12, kS13, kS14, kS15, kS16, kS17, kS18, kS19, kS20, kS21, kS22, kS23, kS24, kS25, kS26, kS27, kS28, kS30, kS31, kS32, kS33, kS34, kS35, kS36, kS37, kS38, kS39, kS40, kS41, kS42, kS43, kS51, kS52, kS53, List.getElem?_cons_zero, List.getElem?_cons_succ, List.set_cons_zero, List.set_cons_succ, List.length_cons, List.length_nil, List.drop_succ_cons, List.drop_zero, List.cons_append, List.nil_append, Option.toList_some, Option.toList_none, cz, ci2, true_and, and_true, and_self, true_or, or_true, nI_1, Nat.reduceAdd, Nat.reduceLT]
      refine ⟨fun h => absurd h (by decide), fun _ => ?_⟩
      refine ev_seg rfl ?_
      simp only [TE, sxs, sx, ldI, ldA, stI, stA, inc, gtF, ptF, ldX, stX, ldR, ldL, stL, dp1, dp2, Tm, kS0, kS1, kS2, kS3, kS4, kS5, kS6, kS7, kS8, kS9, kS10, kS11, kS12, kS13, kS14, kS15, kS16, kS17, kS18, kS19, kS20, kS21, kS22, kS23, kS24, kS25, kS26, kS27, kS28, kS30, kS31, kS32, kS33, kS34, kS35, kS36, kS37, kS38, kS39, kS40, kS41, kS42, kS43, kS51, kS52, kS53, List.getElem?_cons_zero, List.getElem?_cons_succ, List.set_cons_zero, List.set_cons_succ, List.length_cons, List.length_nil, List.drop_succ_cons, List.drop_zero, List.cons_append, List.nil_append, Option.toList_some, Option.toList_none, cz, ci2, true_and, and_true, and_self, true_or, or_true, nI_1, Nat.reduceAdd, Nat.reduceLT]
      refine cv1 rfl rfl (by first | exact rfl | exact trivial) (s_waysOf (k := 0) (by decide)) ?_
      refine ev_seg rfl ?_
      simp only [TE, sxs, sx, ldI, ldA, stI, stA, inc, gtF, ptF, ldX, stX, ldR, ldL, stL, dp1, dp2, Tm, kS0, kS1, kS2, kS3, kS4, kS5, kS6, kS7, kS8, kS9, kS10, kS11, kS12, kS13, kS14, kS15, kS16, kS17, kS18, kS19, kS20, kS21, kS22, kS23, kS24, kS25, kS26, kS27, kS28, kS30, kS31, kS32, kS33, kS34, kS35, kS36, kS37, kS38, kS39, kS40, kS41, kS42, kS43, kS51, kS52, kS53, List.getElem?_cons_zero, List.getElem?_cons_succ, List.set_cons_zero, List.set_cons_succ, List.length_cons, List.length_nil, List.drop_succ_cons, List.drop_zero, List.cons_append, List.nil_append, Option.toList_some, Option.toList_none, cz, ci2, true_and, and_true, and_self, true_or, or_true, nI_1, Nat.reduceAdd, Nat.reduceLT]
      rfl
    · have e0 : cntL (psd n w pl mg) (L.take 0).reverse γ = 0 := by
        rw [List.take_zero, List.reverse_nil, cntL, if_neg ?_]
        unfold psd
        rw [decide_eq_true_eq]
        intro h
        refine hc (Nat.le_trans h (Nat.le_of_eq (ct_congr fun s _ => ?_)))
        rw [List.take_zero, List.reverse_nil, rem]
        simp
      rw [bI_f hc, e0]
      refine ev_seg rfl ?_
      simp only [TE, sxs, sx, ldI, ldA, stI, stA, inc, gtF, ptF, ldX, stX, ldR, ldL, stL, dp1, dp2, Tm, kS0, kS1, kS2, kS3, kS4, kS5, kS6, kS7, kS8, kS9, kS10, kS11, kS12, kS13, kS14, kS15, kS16, kS17, kS18, kS19, kS20, kS21, kS22, kS23, kS24, kS25, kS26, kS27, kS28, kS30, kS31, kS32, kS33, kS34, kS35, kS36, kS37, kS38, kS39, kS40, kS41, kS42, kS43, kS51, kS52, kS53, List.getElem?_cons_zero, List.getElem?_cons_succ, List.set_cons_zero, List.set_cons_succ, List.length_cons, List.length_nil, List.drop_succ_cons, List.drop_zero, List.cons_append, List.nil_append, Option.toList_some, Option.toList_none, cz, ci2, true_and, and_true, and_self, true_or, or_true, nI_1, Nat.reduceAdd, Nat.reduceLT]
      refine ⟨fun _ => ?_, fun h => absurd trivial h⟩
      refine ev_seg rfl ?_
      simp only [TE, sxs, sx, ldI, ldA, stI, stA, inc, gtF, ptF, ldX, stX, ldR, ldL, stL, dp1, dp2, Tm, kS0, kS1, kS2, kS3, kS4, kS5, kS6, kS7, kS8, kS9, kS10, kS11, kS12, kS13, kS14, kS15, kS16, kS17, kS18, kS19, kS20, kS21, kS22, kS23, kS24, kS25, kS26, kS27, kS28, kS30, kS31, kS32, kS33, kS34, kS35, kS36, kS37, kS38, kS39, kS40, kS41, kS42, kS43, kS51, kS52, kS53, List.getElem?_cons_zero, List.getElem?_cons_succ, List.set_cons_zero, List.set_cons_succ, List.length_cons, List.length_nil, List.drop_succ_cons, List.drop_zero, List.cons_append, List.nil_append, Option.toList_some, Option.toList_none, cz, ci2, true_and, and_true, and_self, true_or, or_true, nI_1, Nat.reduceAdd, Nat.reduceLT]
      refine ⟨fun _ => ?_, fun h => absurd (by decide) h⟩
      refine ev_seg rfl ?_
      simp only [TE, sxs, sx, ldI, ldA, stI, stA, inc, gtF, ptF, ldX, stX, ldR, ldL, stL, dp1, dp2, Tm, kS0, kS1, kS2, kS3, kS4, kS5, kS6, kS7, kS8, kS9, kS10, kS11, kS12, kS13, kS14, kS15, kS16, kS17, kS18, kS19, kS20, kS21, kS22, kS23, kS24, kS25, kS26, kS27, kS28, kS30, kS31, kS32, kS33, kS34, kS35, kS36, kS37, kS38, kS39, kS40, kS41, kS42, kS43, kS51, kS52, kS53, List.getElem?_cons_zero, List.getElem?_cons_succ, List.set_cons_zero, List.set_cons_succ, List.length_cons, List.length_nil, List.drop_succ_cons, List.drop_zero, List.cons_append, List.nil_append, Option.toList_some, Option.toList_none, cz, ci2, true_and, and_true, and_self, true_or, or_true, nI_1, Nat.reduceAdd, Nat.reduceLT]
      rfl
  | succ k ih =>
    intro X γ hk hL hg hO
    have hk1 : k < L.length := by omega
    have hp3 := hL0 L[k] (List.getElem_mem hk1)
    have hpR : ∀ q, q ∈ (L.take (k + 1)).reverse → q.1 ≠ q.2 := fun q hq => (hL0 q (List.mem_of_mem_take (List.mem_reverse.mp hq))).2.2
    have hb1 : bd n 10000 γ := fun i hi => by have := hg i hi; omega
    have hb2 : bd n 10000 (rem (L.take (k + 1)).reverse) := fun i _ => by
      have := rem_bd (L.take (k + 1)).reverse i
      rw [List.length_reverse, List.length_take] at this
      omega
    have hlen : (L.take (k + 1)).reverse.length = k + 1 := by rw [List.length_reverse, List.length_take]; omega
    have hlk : (L.take k).reverse.length = k := by rw [List.length_reverse, List.length_take]; omega
    have fin : ∀ v, (pl ≤ ct (fun s => decide (s ≠ w) && decide (γ w + 3 * rem (L.take (k + 1)).reverse w + mg ≤ γ s)) n → v = nI (3 ^ (k + 1))) →
        (∃ Z, (¬ pl ≤ ct (fun s => decide (s ≠ w) && decide (γ w + 3 * rem (L.take (k + 1)).reverse w + mg ≤ γ s)) n → Ev sc (d + 2 + (k + 1)) 35 4 [vR 19 0 0, vI (nI (k + 1)), av0, av0] [] X (.inl (some (.inl v))) Z 0) ∧ Fr [23, 24] X Z ∧ OL Z n w pl mg γ (rem (L.take (k + 1)).reverse)) →
        ∃ Z, Ev sc (d + 2 + (k + 1)) 35 0 (ent 35 [vR 19 0 0, vI (nI (k + 1))]) [] X (.inl (some (.inl v))) Z 0 ∧ Fr [23, 24] X Z ∧ OL Z n w pl mg γ (rem (L.take (k + 1)).reverse) := by
      intro v hv hZ
      by_cases hc : pl ≤ ct (fun s => decide (s ≠ w) && decide (γ w + 3 * rem (L.take (k + 1)).reverse w + mg ≤ γ s)) n
      · refine ⟨X, ?_, Fr.rf _ _, hO⟩
        rw [en35]
        refine ev_seg rfl ?_
        simp only [TE, sxs, sx, ldI, ldA, stI, stA, inc, gtF, ptF, ldX, stX, ldR, ldL, stL, dp1, dp2, Tm, kS0, kS1, kS2, kS3, kS4, kS5, kS6, kS7, kS8, kS9, kS10, kS11, kS12, kS13, kS14, kS15, kS16, kS17, kS18, kS19, kS20, kS21, kS22, kS23, kS24, kS25, kS26, kS27, kS28, kS30, kS31, kS32, kS33, kS34, kS35, kS36, kS37, kS38, kS39, kS40, kS41, kS42, kS43, kS51, kS52, kS53, List.getElem?_cons_zero, List.getElem?_cons_succ, List.set_cons_zero, List.set_cons_succ, List.length_cons, List.length_nil, List.drop_succ_cons, List.drop_zero, List.cons_append, List.nil_append, Option.toList_some, Option.toList_none, cz, ci2, true_and, and_true, and_self, true_or, or_true, nI_1, Nat.reduceAdd, Nat.reduceLT]
        refine cv1 rfl rfl (by first | exact rfl | exact trivial) (s_isPassed hO hn hw hm hp hb1 hb2) ?_
        rw [bI_t hc]
        refine ev_seg rfl ?_
        simp only [TE, sxs, sx, ldI, ldA, stI, stA, inc, gtF, ptF, ldX, stX, ldR, ldL, stL, dp1, dp2, Tm, kS0, kS1, kS2, kS3, kS4, kS5, kS6, kS7, kS8, kS9, kS10, kS11, kS12, kS13, kS14, kS15, kS16, kS17, kS18, kS19, kS20, kS21, kS22, kS23, kS24, kS25, kS26, kS27, kS28, kS30, kS31, kS32, kS33, kS34, kS35, kS36, kS37, kS38, kS39, kS40, kS41, kS42, kS43, kS51, kS52, kS53, List.getElem?_cons_zero, List.getElem?_cons_succ, List.set_cons_zero, List.set_cons_succ, List.length_cons, List.length_nil, List.drop_succ_cons, List.drop_zero, List.cons_append, List.nil_append, Option.toList_some, Option.toList_none, cz, ci2, true_and, and_true, and_self, true_or, or_true, nI_1, Nat.reduceAdd, Nat.reduceLT]
        refine ⟨fun h => absurd h (by decide), fun _ => ?_⟩
        refine ev_seg rfl ?_
        simp only [TE, sxs, sx, ldI, ldA, stI, stA, inc, gtF, ptF, ldX, stX, ldR, ldL, stL, dp1, dp2, Tm, kS0, kS1, kS2, kS3, kS4, kS5, kS6, kS7, kS8, kS9, kS10, kS11, kS12, kS13, kS14, kS15, kS16, kS17, kS18, kS19, kS20, kS21, kS22, kS23, kS24, kS25, kS26, kS27, kS28, kS30, kS31, kS32, kS33, kS34, kS35, kS36, kS37, kS38, kS39, kS40, kS41, kS42, kS43, kS51, kS52, kS53, List.getElem?_cons_zero, List.getElem?_cons_succ, List.set_cons_zero, List.set_cons_succ, List.length_cons, List.length_nil, List.drop_succ_cons, List.drop_zero, List.cons_append, List.nil_append, Option.toList_some, Option.toList_none, cz, ci2, true_and, and_true, and_self, true_or, or_true, nI_1, Nat.reduceAdd, Nat.reduceLT]
        refine cv1 rfl rfl (by first | exact rfl | exact trivial) (s_waysOf (by omega)) ?_
        refine ev_seg rfl ?_
        simp only [TE, sxs, sx, ldI, ldA, stI, stA, inc, gtF, ptF, ldX, stX, ldR, ldL, stL, dp1, dp2, Tm, kS0, kS1, kS2, kS3, kS4, kS5, kS6, kS7, kS8, kS9, kS10, kS11, kS12, kS13, kS14, kS15, kS16, kS17, kS18, kS19, kS20, kS21, kS22, kS23, kS24, kS25, kS26, kS27, kS28, kS30, kS31, kS32, kS33, kS34, kS35, kS36, kS37, kS38, kS39, kS40, kS41, kS42, kS43, kS51, kS52, kS53, List.getElem?_cons_zero, List.getElem?_cons_succ, List.set_cons_zero, List.set_cons_succ, List.length_cons, List.length_nil, List.drop_succ_cons, List.drop_zero, List.cons_append, List.nil_append, Option.toList_some, Option.toList_none, cz, ci2, true_and, and_true, and_self, true_or, or_true, nI_1, Nat.reduceAdd, Nat.reduceLT, hv hc]
      · obtain ⟨Z, a1, a2, a3⟩ := hZ
        refine ⟨Z, ?_, a2, a3⟩
        rw [en35]
        refine ev_seg rfl ?_
        simp only [TE, sxs, sx, ldI, ldA, stI, stA, inc, gtF, ptF, ldX, stX, ldR, ldL, stL, dp1, dp2, Tm, kS0, kS1, kS2, kS3, kS4, kS5, kS6, kS7, kS8, kS9, kS10, kS11, kS12, kS13, kS14, kS15, kS16, kS17, kS18, kS19, kS20, kS21, kS22, kS23, kS24, kS25, kS26, kS27, kS28, kS30, kS31, kS32, kS33, kS34, kS35, kS36, kS37, kS38, kS39, kS40, kS41, kS42, kS43, kS51, kS52, kS53, List.getElem?_cons_zero, List.getElem?_cons_succ, List.set_cons_zero, List.set_cons_succ, List.length_cons, List.length_nil, List.drop_succ_cons, List.drop_zero, List.cons_append, List.nil_append, Option.toList_some, Option.toList_none, cz, ci2, true_and, and_true, and_self, true_or, or_true, nI_1, Nat.reduceAdd, Nat.reduceLT]
        refine cv1 rfl rfl (by first | exact rfl | exact trivial) (s_isPassed hO hn hw hm hp hb1 hb2) ?_
        rw [bI_f hc]
        refine ev_seg rfl ?_
        simp only [TE, sxs, sx, ldI, ldA, stI, stA, inc, gtF, ptF, ldX, stX, ldR, ldL, stL, dp1, dp2, Tm, kS0, kS1, kS2, kS3, kS4, kS5, kS6, kS7, kS8, kS9, kS10, kS11, kS12, kS13, kS14, kS15, kS16, kS17, kS18, kS19, kS20, kS21, kS22, kS23, kS24, kS25, kS26, kS27, kS28, kS30, kS31, kS32, kS33, kS34, kS35, kS36, kS37, kS38, kS39, kS40, kS41, kS42, kS43, kS51, kS52, kS53, List.getElem?_cons_zero, List.getElem?_cons_succ, List.set_cons_zero, List.set_cons_succ, List.length_cons, List.length_nil, List.drop_succ_cons, List.drop_zero, List.cons_append, List.nil_append, Option.toList_some, Option.toList_none, cz, ci2, true_and, and_true, and_self, true_or, or_true, nI_1, Nat.reduceAdd, Nat.reduceLT]
        refine ⟨fun _ => a1 hc, fun h => absurd trivial h⟩
    refine fin _ (fun hc => by rw [(all_pass _ γ hpR hc).1, hlen]) ?_
    by_cases hc2 : pl ≤ ct (fun s => decide (s ≠ w) && decide (γ w + mg ≤ γ s + 3 * rem (L.take (k + 1)).reverse s)) n
    · have loop : ∀ q, q ≤ 3 → ∀ (X1 : XT) (c : Nat), c + cn3 (fun o => cntL (psd n w pl mg) (L.take k).reverse (gpl γ L[k] o)) q = cntL (psd n w pl mg) (L.take (k + 1)).reverse γ → Fr [23, 24] X X1 → OL X1 n w pl mg γ (rem (L.take (k + 1)).reverse) →
          ∃ Z, Ev sc (d + 2 + (k + 1)) 35 9 [vR 19 0 0, vI (nI (k + 1)), vI (nI c), vI (nI (3 - q))] [] X1 (.inl (some (.inl (nI (cntL (psd n w pl mg) (L.take (k + 1)).reverse γ))))) Z 0 ∧ Fr [23, 24] X Z ∧ OL Z n w pl mg γ (rem (L.take (k + 1)).reverse) := by
        intro q
        induction q with
        | zero =>
          intro _ X1 c hc hf hO1
          refine ⟨X1, ?_, hf, hO1⟩
          rw [← hc]
          refine ev_seg rfl ?_
          simp only [TE, sxs, sx, ldI, ldA, stI, stA, inc, gtF, ptF, ldX, stX, ldR, ldL, stL, dp1, dp2, Tm, kS0, kS1, kS2, kS3, kS4, kS5, kS6, kS7, kS8, kS9, kS10, kS11, kS12, kS13, kS14, kS15, kS16, kS17, kS18, kS19, kS20, kS21, kS22, kS23, kS24, kS25, kS26, kS27, kS28, kS30, kS31, kS32, kS33, kS34, kS35, kS36, kS37, kS38, kS39, kS40, kS41, kS42, kS43, kS51, kS52, kS53, List.getElem?_cons_zero, List.getElem?_cons_succ, List.set_cons_zero, List.set_cons_succ, List.length_cons, List.length_nil, List.drop_succ_cons, List.drop_zero, List.cons_append, List.nil_append, Option.toList_some, Option.toList_none, cz, ci2, true_and, and_true, and_self, true_or, or_true, nI_1, Nat.reduceAdd, Nat.reduceLT]
          refine ⟨fun _ => ?_, fun h => absurd (by decide) h⟩
          refine ev_seg rfl ?_
          simp only [TE, sxs, sx, ldI, ldA, stI, stA, inc, gtF, ptF, ldX, stX, ldR, ldL, stL, dp1, dp2, Tm, kS0, kS1, kS2, kS3, kS4, kS5, kS6, kS7, kS8, kS9, kS10, kS11, kS12, kS13, kS14, kS15, kS16, kS17, kS18, kS19, kS20, kS21, kS22, kS23, kS24, kS25, kS26, kS27, kS28, kS30, kS31, kS32, kS33, kS34, kS35, kS36, kS37, kS38, kS39, kS40, kS41, kS42, kS43, kS51, kS52, kS53, List.getElem?_cons_zero, List.getElem?_cons_succ, List.set_cons_zero, List.set_cons_succ, List.length_cons, List.length_nil, List.drop_succ_cons, List.drop_zero, List.cons_append, List.nil_append, Option.toList_some, Option.toList_none, cz, ci2, true_and, and_true, and_self, true_or, or_true, nI_1, Nat.reduceAdd, Nat.reduceLT]
          rfl
        | succ q ihq =>
          intro hq3 X1 c hc hf hO1
          have ho : 3 - (q + 1) < 3 := by omega
          have e2 : 2 - q = 3 - (q + 1) := by omega
          rw [cn3] at hc
          rw [e2] at hc
          obtain ⟨X2, a1, a2, a3⟩ := s_play (sc := sc) (d := d + k + 1) hO1 hn (hL.fr hf (by decide) (by decide)) hl hk1 hp3.1 hp3.2.1 ho
          rw [take_rev hk1, dpl_rem] at a3
          have f2 := hf.tr a2
          have hb3 : bd n (5000 - 3 * (k : Int)) (gpl γ L[k] (3 - (q + 1))) := fun i hi => by
            have h1 := hg i hi
            have h2 := gpl_bd hp3.2.2 (o := 3 - (q + 1)) γ i
            omega
          obtain ⟨X3, b1, b2, b3⟩ := ih X2 (gpl γ L[k] (3 - (q + 1))) (by omega) (hL.fr f2 (by decide) (by decide)) hb3 a3
          have f3 := f2.tr b2
          obtain ⟨X4, c1, c2, c3⟩ := s_takeBack (sc := sc) (d := d + k + 1) (γ := γ) (δ := rem (L.take (k + 1)).reverse) (X := X3) hn (hL.fr f3 (by decide) (by decide)) hl hk1 hp3.1 hp3.2.1 ho (by rw [take_rev hk1, dpl_rem]; exact b3)
          obtain ⟨Z, d1, d2, d3⟩ := ihq (by omega) X4 (c + cntL (psd n w pl mg) (L.take k).reverse (gpl γ L[k] (3 - (q + 1)))) (by omega) (f3.tr c2) c3
          refine ⟨Z, ?_, d2, d3⟩
          rw [show 3 - q = 3 - (q + 1) + 1 by omega] at d1
          have dd1 : d + k + 1 + 1 = d + 2 + k := by omega
          rw [dd1] at a1 c1
          refine ev_seg rfl ?_
          simp only [TE, sxs, sx, ldI, ldA, stI, stA, inc, gtF, ptF, ldX, stX, ldR, ldL, stL, dp1, dp2, Tm, kS0, kS1, kS2, kS3, kS4, kS5, kS6, kS7, kS8, kS9, kS10, kS11, kS12, kS13, kS14, kS15, kS16, kS17, kS18, kS19, kS20, kS21, kS22, kS23, kS24, kS25, kS26, kS27, kS28, kS30, kS31, kS32, kS33, kS34, kS35, kS36, kS37, kS38, kS39, kS40, kS41, kS42, kS43, kS51, kS52, kS53, List.getElem?_cons_zero, List.getElem?_cons_succ, List.set_cons_zero, List.set_cons_succ, List.length_cons, List.length_nil, List.drop_succ_cons, List.drop_zero, List.cons_append, List.nil_append, Option.toList_some, Option.toList_none, cz, ci2, true_and, and_true, and_self, true_or, or_true, nI_1, Nat.reduceAdd, Nat.reduceLT]
          refine ⟨fun h => absurd h (nle (b := 3) (by omega) (by decide)), fun _ => ?_⟩
          refine ev_seg rfl ?_
          simp only [TE, sxs, sx, ldI, ldA, stI, stA, inc, gtF, ptF, ldX, stX, ldR, ldL, stL, dp1, dp2, Tm, kS0, kS1, kS2, kS3, kS4, kS5, kS6, kS7, kS8, kS9, kS10, kS11, kS12, kS13, kS14, kS15, kS16, kS17, kS18, kS19, kS20, kS21, kS22, kS23, kS24, kS25, kS26, kS27, kS28, kS30, kS31, kS32, kS33, kS34, kS35, kS36, kS37, kS38, kS39, kS40, kS41, kS42, kS43, kS51, kS52, kS53, List.getElem?_cons_zero, List.getElem?_cons_succ, List.set_cons_zero, List.set_cons_succ, List.length_cons, List.length_nil, List.drop_succ_cons, List.drop_zero, List.cons_append, List.nil_append, Option.toList_some, Option.toList_none, cz, ci2, true_and, and_true, and_self, true_or, or_true, nI_1, Nat.reduceAdd, Nat.reduceLT, nI_pr]
          refine cu3 rfl rfl (by first | exact rfl | exact trivial) (a1) ?_
          refine ev_seg rfl ?_
          simp only [TE, sxs, sx, ldI, ldA, stI, stA, inc, gtF, ptF, ldX, stX, ldR, ldL, stL, dp1, dp2, Tm, kS0, kS1, kS2, kS3, kS4, kS5, kS6, kS7, kS8, kS9, kS10, kS11, kS12, kS13, kS14, kS15, kS16, kS17, kS18, kS19, kS20, kS21, kS22, kS23, kS24, kS25, kS26, kS27, kS28, kS30, kS31, kS32, kS33, kS34, kS35, kS36, kS37, kS38, kS39, kS40, kS41, kS42, kS43, kS51, kS52, kS53, List.getElem?_cons_zero, List.getElem?_cons_succ, List.set_cons_zero, List.set_cons_succ, List.length_cons, List.length_nil, List.drop_succ_cons, List.drop_zero, List.cons_append, List.nil_append, Option.toList_some, Option.toList_none, cz, ci2, true_and, and_true, and_self, true_or, or_true, nI_1, Nat.reduceAdd, Nat.reduceLT, nI_pr]
          refine cv2 rfl rfl (by first | exact rfl | exact trivial) (b1) ?_
          refine ev_seg rfl ?_
          simp only [TE, sxs, sx, ldI, ldA, stI, stA, inc, gtF, ptF, ldX, stX, ldR, ldL, stL, dp1, dp2, Tm, kS0, kS1, kS2, kS3, kS4, kS5, kS6, kS7, kS8, kS9, kS10, kS11, kS12, kS13, kS14, kS15, kS16, kS17, kS18, kS19, kS20, kS21, kS22, kS23, kS24, kS25, kS26, kS27, kS28, kS30, kS31, kS32, kS33, kS34, kS35, kS36, kS37, kS38, kS39, kS40, kS41, kS42, kS43, kS51, kS52, kS53, List.getElem?_cons_zero, List.getElem?_cons_succ, List.set_cons_zero, List.set_cons_succ, List.length_cons, List.length_nil, List.drop_succ_cons, List.drop_zero, List.cons_append, List.nil_append, Option.toList_some, Option.toList_none, cz, ci2, true_and, and_true, and_self, true_or, or_true, nI_1, Nat.reduceAdd, Nat.reduceLT, nI_pr, nI_ad]
          refine cu3 rfl rfl (by first | exact rfl | exact trivial) (c1) ?_
          refine ev_seg rfl ?_
          simp only [TE, sxs, sx, ldI, ldA, stI, stA, inc, gtF, ptF, ldX, stX, ldR, ldL, stL, dp1, dp2, Tm, kS0, kS1, kS2, kS3, kS4, kS5, kS6, kS7, kS8, kS9, kS10, kS11, kS12, kS13, kS14, kS15, kS16, kS17, kS18, kS19, kS20, kS21, kS22, kS23, kS24, kS25, kS26, kS27, kS28, kS30, kS31, kS32, kS33, kS34, kS35, kS36, kS37, kS38, kS39, kS40, kS41, kS42, kS43, kS51, kS52, kS53, List.getElem?_cons_zero, List.getElem?_cons_succ, List.set_cons_zero, List.set_cons_succ, List.length_cons, List.length_nil, List.drop_succ_cons, List.drop_zero, List.cons_append, List.nil_append, Option.toList_some, Option.toList_none, cz, ci2, true_and, and_true, and_self, true_or, or_true, nI_1, Nat.reduceAdd, Nat.reduceLT]
          exact d1
      obtain ⟨Z, a1, a2, a3⟩ := loop 3 (Nat.le_refl _) X 0 (by rw [Nat.zero_add, take_rev hk1, cntL]) (Fr.rf _ _) hO
      refine ⟨Z, fun _ => ?_, a2, a3⟩
      refine ev_seg rfl ?_
      simp only [TE, sxs, sx, ldI, ldA, stI, stA, inc, gtF, ptF, ldX, stX, ldR, ldL, stL, dp1, dp2, Tm, kS0, kS1, kS2, kS3, kS4, kS5, kS6, kS7, kS8, kS9, kS10, kS11, kS12, kS13, kS14, kS15, kS16, kS17, kS18, kS19, kS20, kS21, kS22, kS23, kS24, kS25, kS26, kS27, kS28, kS30, kS31, kS32, kS33, kS34, kS35, kS36, kS37, kS38, kS39, kS40, kS41, kS42, kS43, kS51, kS52, kS53, List.getElem?_cons_zero, List.getElem?_cons_succ, List.set_cons_zero, List.set_cons_succ, List.length_cons, List.length_nil, List.drop_succ_cons, List.drop_zero, List.cons_append, List.nil_append, Option.toList_some, Option.toList_none, cz, ci2, true_and, and_true, and_self, true_or, or_true, nI_1, Nat.reduceAdd, Nat.reduceLT]
      refine ⟨fun h => absurd h (nle (a := 0) (by omega) (by omega)), fun _ => ?_⟩
      refine ev_seg rfl ?_
      simp only [TE, sxs, sx, ldI, ldA, stI, stA, inc, gtF, ptF, ldX, stX, ldR, ldL, stL, dp1, dp2, Tm, kS0, kS1, kS2, kS3, kS4, kS5, kS6, kS7, kS8, kS9, kS10, kS11, kS12, kS13, kS14, kS15, kS16, kS17, kS18, kS19, kS20, kS21, kS22, kS23, kS24, kS25, kS26, kS27, kS28, kS30, kS31, kS32, kS33, kS34, kS35, kS36, kS37, kS38, kS39, kS40, kS41, kS42, kS43, kS51, kS52, kS53, List.getElem?_cons_zero, List.getElem?_cons_succ, List.set_cons_zero, List.set_cons_succ, List.length_cons, List.length_nil, List.drop_succ_cons, List.drop_zero, List.cons_append, List.nil_append, Option.toList_some, Option.toList_none, cz, ci2, true_and, and_true, and_self, true_or, or_true, nI_1, Nat.reduceAdd, Nat.reduceLT]
      refine cv1 rfl rfl (by first | exact rfl | exact trivial) (s_canPass hO hn hw hm hp hb1 hb2) ?_
      rw [bI_t hc2]
      refine ev_seg rfl ?_
      simp only [TE, sxs, sx, ldI, ldA, stI, stA, inc, gtF, ptF, ldX, stX, ldR, ldL, stL, dp1, dp2, Tm, kS0, kS1, kS2, kS3, kS4, kS5, kS6, kS7, kS8, kS9, kS10, kS11, kS12, kS13, kS14, kS15, kS16, kS17, kS18, kS19, kS20, kS21, kS22, kS23, kS24, kS25, kS26, kS27, kS28, kS30, kS31, kS32, kS33, kS34, kS35, kS36, kS37, kS38, kS39, kS40, kS41, kS42, kS43, kS51, kS52, kS53, List.getElem?_cons_zero, List.getElem?_cons_succ, List.set_cons_zero, List.set_cons_succ, List.length_cons, List.length_nil, List.drop_succ_cons, List.drop_zero, List.cons_append, List.nil_append, Option.toList_some, Option.toList_none, cz, ci2, true_and, and_true, and_self, true_or, or_true, nI_1, Nat.reduceAdd, Nat.reduceLT]
      refine ⟨fun _ => ?_, fun h => absurd (by decide) h⟩
      refine ev_seg rfl ?_
      simp only [TE, sxs, sx, ldI, ldA, stI, stA, inc, gtF, ptF, ldX, stX, ldR, ldL, stL, dp1, dp2, Tm, kS0, kS1, kS2, kS3, kS4, kS5, kS6, kS7, kS8, kS9, kS10, kS11, kS12, kS13, kS14, kS15, kS16, kS17, kS18, kS19, kS20, kS21, kS22, kS23, kS24, kS25, kS26, kS27, kS28, kS30, kS31, kS32, kS33, kS34, kS35, kS36, kS37, kS38, kS39, kS40, kS41, kS42, kS43, kS51, kS52, kS53, List.getElem?_cons_zero, List.getElem?_cons_succ, List.set_cons_zero, List.set_cons_succ, List.length_cons, List.length_nil, List.drop_succ_cons, List.drop_zero, List.cons_append, List.nil_append, Option.toList_some, Option.toList_none, cz, ci2, true_and, and_true, and_self, true_or, or_true, nI_1, Nat.reduceAdd, Nat.reduceLT]
      exact a1
    · refine ⟨X, fun _ => ?_, Fr.rf _ _, hO⟩
      rw [(none_pass _ γ hpR hc2).1]
      refine ev_seg rfl ?_
      simp only [TE, sxs, sx, ldI, ldA, stI, stA, inc, gtF, ptF, ldX, stX, ldR, ldL, stL, dp1, dp2, Tm, kS0, kS1, kS2, kS3, kS4, kS5, kS6, kS7, kS8, kS9, kS10, kS11, kS12, kS13, kS14, kS15, kS16, kS17, kS18, kS19, kS20, kS21, kS22, kS23, kS24, kS25, kS26, kS27, kS28, kS30, kS31, kS32, kS33, kS34, kS35, kS36, kS37, kS38, kS39, kS40, kS41, kS42, kS43, kS51, kS52, kS53, List.getElem?_cons_zero, List.getElem?_cons_succ, List.set_cons_zero, List.set_cons_succ, List.length_cons, List.length_nil, List.drop_succ_cons, List.drop_zero, List.cons_append, List.nil_append, Option.toList_some, Option.toList_none, cz, ci2, true_and, and_true, and_self, true_or, or_true, nI_1, Nat.reduceAdd, Nat.reduceLT]
      refine ⟨fun h => absurd h (nle (a := 0) (by omega) (by omega)), fun _ => ?_⟩
      refine ev_seg rfl ?_
      simp only [TE, sxs, sx, ldI, ldA, stI, stA, inc, gtF, ptF, ldX, stX, ldR, ldL, stL, dp1, dp2, Tm, kS0, kS1, kS2, kS3, kS4, kS5, kS6, kS7, kS8, kS9, kS10, kS11, kS12, kS13, kS14, kS15, kS16, kS17, kS18, kS19, kS20, kS21, kS22, kS23, kS24, kS25, kS26, kS27, kS28, kS30, kS31, kS32, kS33, kS34, kS35, kS36, kS37, kS38, kS39, kS40, kS41, kS42, kS43, kS51, kS52, kS53, List.getElem?_cons_zero, List.getElem?_cons_succ, List.set_cons_zero, List.set_cons_succ, List.length_cons, List.length_nil, List.drop_succ_cons, List.drop_zero, List.cons_append, List.nil_append, Option.toList_some, Option.toList_none, cz, ci2, true_and, and_true, and_self, true_or, or_true, nI_1, Nat.reduceAdd, Nat.reduceLT]
      refine cv1 rfl rfl (by first | exact rfl | exact trivial) (s_canPass hO hn hw hm hp hb1 hb2) ?_
      rw [bI_f hc2]
      refine ev_seg rfl ?_
      simp only [TE, sxs, sx, ldI, ldA, stI, stA, inc, gtF, ptF, ldX, stX, ldR, ldL, stL, dp1, dp2, Tm, kS0, kS1, kS2, kS3, kS4, kS5, kS6, kS7, kS8, kS9, kS10, kS11, kS12, kS13, kS14, kS15, kS16, kS17, kS18, kS19, kS20, kS21, kS22, kS23, kS24, kS25, kS26, kS27, kS28, kS30, kS31, kS32, kS33, kS34, kS35, kS36, kS37, kS38, kS39, kS40, kS41, kS42, kS43, kS51, kS52, kS53, List.getElem?_cons_zero, List.getElem?_cons_succ, List.set_cons_zero, List.set_cons_succ, List.length_cons, List.length_nil, List.drop_succ_cons, List.drop_zero, List.cons_append, List.nil_append, Option.toList_some, Option.toList_none, cz, ci2, true_and, and_true, and_self, true_or, or_true, nI_1, Nat.reduceAdd, Nat.reduceLT]
      refine ⟨fun h => absurd trivial h, fun _ => ?_⟩
      refine ev_seg rfl ?_
      simp only [TE, sxs, sx, ldI, ldA, stI, stA, inc, gtF, ptF, ldX, stX, ldR, ldL, stL, dp1, dp2, Tm, kS0, kS1, kS2, kS3, kS4, kS5, kS6, kS7, kS8, kS9, kS10, kS11, kS12, kS13, kS14, kS15, kS16, kS17, kS18, kS19, kS20, kS21, kS22, kS23, kS24, kS25, kS26, kS27, kS28, kS30, kS31, kS32, kS33, kS34, kS35, kS36, kS37, kS38, kS39, kS40, kS41, kS42, kS43, kS51, kS52, kS53, List.getElem?_cons_zero, List.getElem?_cons_succ, List.set_cons_zero, List.set_cons_succ, List.length_cons, List.length_nil, List.drop_succ_cons, List.drop_zero, List.cons_append, List.nil_append, Option.toList_some, Option.toList_none, cz, ci2, true_and, and_true, and_self, true_or, or_true, nI_1, Nat.reduceAdd, Nat.reduceLT]
      rfl
end Wys
