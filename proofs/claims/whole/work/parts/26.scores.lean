/-! all small scores -/
section Scr
variable {sc : SC} {d : Nat} {g : Int32} {X : XT}
/-- a group whose teams' lots differ -/
def GLK (X : XT) (g : Int32) (n : Nat) : Prop := X.1 2 0 g 5 = nI n ∧ 3 ≤ n ∧ n ≤ 5 ∧ ∀ a b, a < n → b < n → a ≠ b → ¬ lotMk X g (nI a) = lotMk X g (nI b)
theorem GLK.ok {n : Nat} (h : GLK X g n) : GOK X g n := ⟨h.1, h.2.1, h.2.2.1, fun a b ha hb hne hf => h.2.2.2 a b ha hb hne (fa_all.mp hf 3 (by decide))⟩
theorem GLK.fr {K : List Nat} {X' : XT} {n : Nat} (h : GLK X g n) (hf : Fr K X X') (h2 : 2 ∉ K) (h7 : 7 ∉ K) : GLK X' g n := by
  refine ⟨by rw [hf.at 2 h2]; exact h.1, h.2.1, h.2.2.1, fun a b ha hb hne => ?_⟩
  unfold lotMk
  rw [hf.at 7 h7, hf.at 7 h7, hf.at 2 h2]
  exact h.2.2.2 a b ha hb hne
theorem tell_fr4 (X : XT) (g a b x y : Int32) : Fr [4] X (tellX X g a b x y) := (Fr.xs X g a b x (List.mem_singleton.mpr rfl)).tr (Fr.xs (xs X.1 4 g a b x, X.2) g b a y (List.mem_singleton.mpr rfl))
theorem tellX_at (X : XT) (g l u x y a b j : Int32) : (tellX X g l u x y).1 4 a b j = if a = g ∧ b = u ∧ j = l then y else if a = g ∧ b = l ∧ j = u then x else X.1 4 a b j := by
  show xs (xs X.1 4 g l u x) 4 g u l y 4 a b j = _
  unfold xs
  simp only [true_and]
theorem tell_fr {K : List Nat} {X X' : XT} (h : Fr K X X') (h4 : 4 ∉ K) (g a b x y : Int32) : Fr K (tellX X g a b x y) (tellX X' g a b x y) := by
  refine ⟨h.1, fun k hk => ?_⟩
  by_cases hk4 : k = 4
  · subst hk4
    funext a' b' j'
    show xs (xs X'.1 4 g a b x) 4 g b a y 4 a' b' j' = xs (xs X.1 4 g a b x) 4 g b a y 4 a' b' j'
    unfold xs
    rw [h.2 4 h4]
  · rw [(tell_fr4 X' g a b x y).2 k (by simpa using hk4), (tell_fr4 X g a b x y).2 k (by simpa using hk4), h.2 k hk]
/-- the same but for two results -/
def OV (X X1 : XT) (g l u : Int32) : Prop := Fr [4, 11, 12, 14] X X1 ∧ ∀ a b j, ¬ (a = g ∧ b = l ∧ j = u) → ¬ (a = g ∧ b = u ∧ j = l) → X1.1 4 a b j = X.1 4 a b j
theorem OV.rf (X : XT) (g l u : Int32) : OV X X g l u := ⟨Fr.rf _ _, fun _ _ _ _ _ => rfl⟩
theorem OV.tell {X1 : XT} {l u : Int32} (h : OV X X1 g l u) (x y : Int32) : Fr [11, 12, 14] (tellX X g l u x y) (tellX X1 g l u x y) := by
  refine ⟨h.1.1, fun k hk => ?_⟩
  by_cases hk4 : k = 4
  · subst hk4
    funext a' b' j'
    rw [tellX_at, tellX_at]
    by_cases h1 : a' = g ∧ b' = u ∧ j' = l
    · rw [if_pos h1, if_pos h1]
    · rw [if_neg h1, if_neg h1]
      by_cases h2 : a' = g ∧ b' = l ∧ j' = u
      · rw [if_pos h2, if_pos h2]
      · rw [if_neg h2, if_neg h2]
        exact h.2 _ _ _ h2 h1
  · rw [(tell_fr4 X1 g l u x y).2 k (by simpa using hk4), (tell_fr4 X g l u x y).2 k (by simpa using hk4), h.1.2 k (by simp at hk ⊢; omega)]
theorem OV.back {X1 Z : XT} {l u : Int32} (h : OV X X1 g l u) {x y : Int32} (hZ : Fr [11, 12, 14] (tellX X g l u x y) Z) : OV X Z g l u := by
  refine ⟨((tell_fr4 X g l u x y).mo (by decide)).tr (hZ.mo (by decide)), fun a b j h1 h2 => ?_⟩
  rw [hZ.at 4 (by decide)]
  rw [tellX_at, if_neg h2, if_neg h1]
theorem OV.untell {X1 : XT} {l u : Int32} (h : OV X X1 g l u) (h1 : X.1 4 g l u = -1) (h2 : X.1 4 g u l = -1) : Fr [11, 12, 14] X (tellX X1 g l u (-1) (-1)) := by
  have e : Fr [11, 12, 14] X (tellX X g l u (-1) (-1)) := by
    refine ⟨rfl, fun k hk => ?_⟩
    by_cases hk4 : k = 4
    · subst hk4
      funext a b j
      rw [tellX_at]
      by_cases w1 : a = g ∧ b = u ∧ j = l
      · rw [if_pos w1, w1.1, w1.2.1, w1.2.2, h2]
      · rw [if_neg w1]
        by_cases w2 : a = g ∧ b = l ∧ j = u
        · rw [if_pos w2, w2.1, w2.2.1, w2.2.2, h1]
        · rw [if_neg w2]
    · rw [(tell_fr4 X g l u (-1) (-1)).2 k (by simpa using hk4)]
  exact e.tr (h.tell (-1) (-1))
/-- in how many small scores of the matches a team comes to the first places -/
def cntX (g : Int32) (n w pl : Nat) : List (Nat × Nat) → XT → Nat
  | [], X => if PTX X g n w < pl then 1 else 0
  | p :: R, X => cn3 (fun a => cn3 (fun b => cntX g n w pl R (tellX X g (nI p.1) (nI p.2) (nI a) (nI b))) 3) 3
theorem cntX_fr {n w pl : Nat} : ∀ (R : List (Nat × Nat)) {X X' : XT}, Fr [11, 12, 14] X X' → cntX g n w pl R X' = cntX g n w pl R X
  | [], X, X', h => by
    rw [cntX, cntX, PTX_fr h (by decide) (by decide) (by decide) (by decide) (by decide)]
  | p :: R, X, X', h => by
    rw [cntX, cntX]
    exact cn3_congr fun a => cn3_congr fun b => cntX_fr R (tell_fr h (by decide) _ _ _ _ _)
/-- these matches are left -/
def LFT (X : XT) (g : Int32) (R : List (Nat × Nat)) : Prop := ∀ p, p ∈ R → X.1 4 g (nI p.1) (nI p.2) = -1 ∧ X.1 4 g (nI p.2) (nI p.1) = -1
theorem s_countFrom {n w pl : Nat} {L : List (Nat × Nat)} (hn : n ≤ 5) (hw : w < n) (hp : pl ≤ 2) (hl : L.length ≤ 10) (hL0 : ∀ p, p ∈ L → p.1 < p.2 ∧ p.2 < n) (hnd : L.Nodup) :
    ∀ (k : Nat) (X : XT), k ≤ L.length → Lst26 X L → GLK X g n → LFT X g (L.take k) →
    ∃ Z, Ev sc (d + 12 + k) 42 0 (ent 42 [vR 25 0 0, vR 2 0 g, vI (nI w), vI (nI pl), vR 8 0 0, vI (nI k)]) [] X (.inl (some (.inl (nI (cntX g n w pl (L.take k).reverse X))))) Z 0 ∧ Fr [11, 12, 14] X Z := by
  intro k
  induction k with
  | zero =>
    intro X hk hL hG hF
    obtain ⟨Z, τ, a1, a2⟩ := s_drawX (sc := sc) (d := d) hG.ok
    refine ⟨Z, ?_, a2.1⟩
    obtain ⟨i, hi, hti, hpi⟩ := a2.onto hw
    have hpo := s_placeOf (sc := sc) (d := d + 11) hn a2.2.1 a2.2.2.1 hi
    rw [hti, ← hpi] at hpo
    rw [en42]
    refine ev_seg rfl ?_
    simp only [TE, sxs, sx, ldI, ldA, stI, stA, inc, gtF, ptF, ldX, stX, ldR, ldL, stL, dp1, dp2, Tm, kS0, kS1, kS2, kS3, kS4, kS5, kS6, kS7, kS8, kS9, kS10, kS11, kS12, kS13, kS14, kS15, kS16, kS17, kS18, kS19, kS20, kS21, kS22, kS23, kS24, kS25, kS26, kS27, kS28, kS30, kS31, kS32, kS33, kS34, kS35, kS36, kS37, kS38, kS39, kS40, kS41, kS42, kS43, kS51, kS52, kS53, List.getElem?_cons_zero, List.getElem?_cons_succ, List.set_cons_zero, List.set_cons_succ, List.length_cons, List.length_nil, List.drop_succ_cons, List.drop_zero, List.cons_append, List.nil_append, Option.toList_some, Option.toList_none, cz, ci2, true_and, and_true, and_self, true_or, or_true, nI_1, Nat.reduceAdd, Nat.reduceLT]
    refine ⟨fun h => absurd h (i_irr _), fun _ => ?_⟩
    refine ev_seg rfl ?_
    simp only [TE, sxs, sx, ldI, ldA, stI, stA, inc, gtF, ptF, ldX, stX, ldR, ldL, stL, dp1, dp2, Tm, kS0, kS1, kS2, kS3, kS4, kS5, kS6, kS7, kS8, kS9, kS10, kS11, kS12, kS13, kS14, kS15, kS16, kS17, kS18, kS19, kS20, kS21, kS22, kS23, kS24, kS25, kS26, kS27, kS28, kS30, kS31, kS32, kS33, kS34, kS35, kS36, kS37, kS38, kS39, kS40, kS41, kS42, kS43, kS51, kS52, kS53, List.getElem?_cons_zero, List.getElem?_cons_succ, List.set_cons_zero, List.set_cons_succ, List.length_cons, List.length_nil, List.drop_succ_cons, List.drop_zero, List.cons_append, List.nil_append, Option.toList_some, Option.toList_none, cz, ci2, true_and, and_true, and_self, true_or, or_true, nI_1, Nat.reduceAdd, Nat.reduceLT]
    refine cu2 rfl rfl (by first | exact rfl | exact trivial) (a1) ?_
    refine ev_seg rfl ?_
    simp only [TE, sxs, sx, ldI, ldA, stI, stA, inc, gtF, ptF, ldX, stX, ldR, ldL, stL, dp1, dp2, Tm, kS0, kS1, kS2, kS3, kS4, kS5, kS6, kS7, kS8, kS9, kS10, kS11, kS12, kS13, kS14, kS15, kS16, kS17, kS18, kS19, kS20, kS21, kS22, kS23, kS24, kS25, kS26, kS27, kS28, kS30, kS31, kS32, kS33, kS34, kS35, kS36, kS37, kS38, kS39, kS40, kS41, kS42, kS43, kS51, kS52, kS53, List.getElem?_cons_zero, List.getElem?_cons_succ, List.set_cons_zero, List.set_cons_succ, List.length_cons, List.length_nil, List.drop_succ_cons, List.drop_zero, List.cons_append, List.nil_append, Option.toList_some, Option.toList_none, cz, ci2, true_and, and_true, and_self, true_or, or_true, nI_1, Nat.reduceAdd, Nat.reduceLT]
    refine cv2 rfl rfl (by first | exact rfl | exact trivial) (hpo) ?_
    rw [List.take_zero, List.reverse_nil, cntX]
    by_cases hc : PTX X g n w < pl
    · rw [if_pos hc]
      refine ev_seg rfl ?_
      simp only [TE, sxs, sx, ldI, ldA, stI, stA, inc, gtF, ptF, ldX, stX, ldR, ldL, stL, dp1, dp2, Tm, kS0, kS1, kS2, kS3, kS4, kS5, kS6, kS7, kS8, kS9, kS10, kS11, kS12, kS13, kS14, kS15, kS16, kS17, kS18, kS19, kS20, kS21, kS22, kS23, kS24, kS25, kS26, kS27, kS28, kS30, kS31, kS32, kS33, kS34, kS35, kS36, kS37, kS38, kS39, kS40, kS41, kS42, kS43, kS51, kS52, kS53, List.getElem?_cons_zero, List.getElem?_cons_succ, List.set_cons_zero, List.set_cons_succ, List.length_cons, List.length_nil, List.drop_succ_cons, List.drop_zero, List.cons_append, List.nil_append, Option.toList_some, Option.toList_none, cz, ci2, true_and, and_true, and_self, true_or, or_true, nI_1, Nat.reduceAdd, Nat.reduceLT]
      refine ⟨fun h => absurd h (nle hc (by omega)), fun _ => ?_⟩
      refine ev_seg rfl ?_
      simp only [TE, sxs, sx, ldI, ldA, stI, stA, inc, gtF, ptF, ldX, stX, ldR, ldL, stL, dp1, dp2, Tm, kS0, kS1, kS2, kS3, kS4, kS5, kS6, kS7, kS8, kS9, kS10, kS11, kS12, kS13, kS14, kS15, kS16, kS17, kS18, kS19, kS20, kS21, kS22, kS23, kS24, kS25, kS26, kS27, kS28, kS30, kS31, kS32, kS33, kS34, kS35, kS36, kS37, kS38, kS39, kS40, kS41, kS42, kS43, kS51, kS52, kS53, List.getElem?_cons_zero, List.getElem?_cons_succ, List.set_cons_zero, List.set_cons_succ, List.length_cons, List.length_nil, List.drop_succ_cons, List.drop_zero, List.cons_append, List.nil_append, Option.toList_some, Option.toList_none, cz, ci2, true_and, and_true, and_self, true_or, or_true, nI_1, Nat.reduceAdd, Nat.reduceLT]
      refine ev_seg rfl ?_
      simp only [TE, sxs, sx, ldI, ldA, stI, stA, inc, gtF, ptF, ldX, stX, ldR, ldL, stL, dp1, dp2, Tm, kS0, kS1, kS2, kS3, kS4, kS5, kS6, kS7, kS8, kS9, kS10, kS11, kS12, kS13, kS14, kS15, kS16, kS17, kS18, kS19, kS20, kS21, kS22, kS23, kS24, kS25, kS26, kS27, kS28, kS30, kS31, kS32, kS33, kS34, kS35, kS36, kS37, kS38, kS39, kS40, kS41, kS42, kS43, kS51, kS52, kS53, List.getElem?_cons_zero, List.getElem?_cons_succ, List.set_cons_zero, List.set_cons_succ, List.length_cons, List.length_nil, List.drop_succ_cons, List.drop_zero, List.cons_append, List.nil_append, Option.toList_some, Option.toList_none, cz, ci2, true_and, and_true, and_self, true_or, or_true, nI_1, Nat.reduceAdd, Nat.reduceLT]
      rfl
    · rw [if_neg hc]
      refine ev_seg rfl ?_
      simp only [TE, sxs, sx, ldI, ldA, stI, stA, inc, gtF, ptF, ldX, stX, ldR, ldL, stL, dp1, dp2, Tm, kS0, kS1, kS2, kS3, kS4, kS5, kS6, kS7, kS8, kS9, kS10, kS11, kS12, kS13, kS14, kS15, kS16, kS17, kS18, kS19, kS20, kS21, kS22, kS23, kS24, kS25, kS26, kS27, kS28, kS30, kS31, kS32, kS33, kS34, kS35, kS36, kS37, kS38, kS39, kS40, kS41, kS42, kS43, kS51, kS52, kS53, List.getElem?_cons_zero, List.getElem?_cons_succ, List.set_cons_zero, List.set_cons_succ, List.length_cons, List.length_nil, List.drop_succ_cons, List.drop_zero, List.cons_append, List.nil_append, Option.toList_some, Option.toList_none, cz, ci2, true_and, and_true, and_self, true_or, or_true, nI_1, Nat.reduceAdd, Nat.reduceLT]
      refine ⟨fun _ => ?_, fun h => absurd (nleI (by omega) (by omega)) h⟩
      refine ev_seg rfl ?_
      simp only [TE, sxs, sx, ldI, ldA, stI, stA, inc, gtF, ptF, ldX, stX, ldR, ldL, stL, dp1, dp2, Tm, kS0, kS1, kS2, kS3, kS4, kS5, kS6, kS7, kS8, kS9, kS10, kS11, kS12, kS13, kS14, kS15, kS16, kS17, kS18, kS19, kS20, kS21, kS22, kS23, kS24, kS25, kS26, kS27, kS28, kS30, kS31, kS32, kS33, kS34, kS35, kS36, kS37, kS38, kS39, kS40, kS41, kS42, kS43, kS51, kS52, kS53, List.getElem?_cons_zero, List.getElem?_cons_succ, List.set_cons_zero, List.set_cons_succ, List.length_cons, List.length_nil, List.drop_succ_cons, List.drop_zero, List.cons_append, List.nil_append, Option.toList_some, Option.toList_none, cz, ci2, true_and, and_true, and_self, true_or, or_true, nI_1, Nat.reduceAdd, Nat.reduceLT]
      refine ev_seg rfl ?_
      simp only [TE, sxs, sx, ldI, ldA, stI, stA, inc, gtF, ptF, ldX, stX, ldR, ldL, stL, dp1, dp2, Tm, kS0, kS1, kS2, kS3, kS4, kS5, kS6, kS7, kS8, kS9, kS10, kS11, kS12, kS13, kS14, kS15, kS16, kS17, kS18, kS19, kS20, kS21, kS22, kS23, kS24, kS25, kS26, kS27, kS28, kS30, kS31, kS32, kS33, kS34, kS35, kS36, kS37, kS38, kS39, kS40, kS41, kS42, kS43, kS51, kS52, kS53, List.getElem?_cons_zero, List.getElem?_cons_succ, List.set_cons_zero, List.set_cons_succ, List.length_cons, List.length_nil, List.drop_succ_cons, List.drop_zero, List.cons_append, List.nil_append, Option.toList_some, Option.toList_none, cz, ci2, true_and, and_true, and_self, true_or, or_true, nI_1, Nat.reduceAdd, Nat.reduceLT]
      rfl
  | succ k ih =>
    intro X hk hL hG hF
    have hk1 : k < L.length := by omega
    have hp3 := hL0 L[k] (List.getElem_mem hk1)
    have hlu : L[k].1 < n := by omega
    have vk : vp_in (nI k) 10 := vpn (by omega) (by decide)
    have v1 : vp_in (nI L[k].1) 5 := vpn (by omega) (by decide)
    have v2 : vp_in (nI L[k].2) 5 := vpn (by omega) (by decide)
    have hmem : L[k] ∈ L.take (k + 1) := by
      rw [List.take_succ_eq_append_getElem hk1]
      exact List.mem_append_right _ (List.mem_singleton.mpr rfl)
    obtain ⟨hc1, hc2⟩ := hF _ hmem
    have hLF : ∀ x y, LFT (tellX X g (nI L[k].1) (nI L[k].2) x y) g (L.take k) := by
      intro x y q hq
      have hqL := hL0 q (List.mem_of_mem_take hq)
      have hne : q ≠ L[k] := by
        obtain ⟨j, hj, hje⟩ := List.mem_iff_getElem.mp hq
        rw [List.length_take] at hj
        rw [List.getElem_take] at hje
        intro h
        have := (List.getElem_inj (h₀ := by omega) (h₁ := hk1) hnd).mp (hje.trans h)
        omega
      have h1 : ¬ (nI q.1 = nI L[k].1 ∧ nI q.2 = nI L[k].2) := fun w => hne (Prod.ext (nI_inj (by omega) (by omega) w.1) (nI_inj (by omega) (by omega) w.2))
      have h2 : ¬ (nI q.1 = nI L[k].2 ∧ nI q.2 = nI L[k].1) := fun w => by
        have e1 := nI_inj (by omega) (by omega) w.1
        have e2 := nI_inj (by omega) (by omega) w.2
        omega
      have h0 := hF q (by rw [List.take_succ_eq_append_getElem hk1]; exact List.mem_append_left _ hq)
      constructor
      · rw [tellX_at, if_neg (fun w => h2 w.2), if_neg (fun w => h1 w.2)]
        exact h0.1
      · rw [tellX_at, if_neg (fun w => h1 ⟨w.2.2, w.2.1⟩), if_neg (fun w => h2 ⟨w.2.2, w.2.1⟩)]
        exact h0.2
    have inner : ∀ (a : Nat), a < 3 → ∀ q, q ≤ 3 → ∀ (X1 : XT) (c c' : Nat), OV X X1 g (nI L[k].1) (nI L[k].2) → c + cn3 (fun b => cntX g n w pl (L.take k).reverse (tellX X g (nI L[k].1) (nI L[k].2) (nI a) (nI b))) q = c' →
        ∃ X2, OV X X2 g (nI L[k].1) (nI L[k].2) ∧ ∀ o Z, Ev sc (d + 12 + (k + 1)) 42 16 [vR 25 0 0, vR 2 0 g, vI (nI w), vI (nI pl), vR 8 0 0, vI (nI (k + 1)), vI (nI L[k].1), vI (nI L[k].2), vI (nI c'), vI (nI a), vI (nI 3)] [] X2 o Z 0 →
          Ev sc (d + 12 + (k + 1)) 42 12 [vR 25 0 0, vR 2 0 g, vI (nI w), vI (nI pl), vR 8 0 0, vI (nI (k + 1)), vI (nI L[k].1), vI (nI L[k].2), vI (nI c), vI (nI a), vI (nI (3 - q))] [] X1 o Z 0 := by
      intro a ha q
      induction q with
      | zero =>
        intro _ X1 c c' hov hc
        refine ⟨X1, hov, fun o Z h => ?_⟩
        rw [cn3, Nat.add_zero] at hc
        rw [hc]
        refine ev_seg rfl ?_
        simp only [TE, sxs, sx, ldI, ldA, stI, stA, inc, gtF, ptF, ldX, stX, ldR, ldL, stL, dp1, dp2, Tm, kS0, kS1, kS2, kS3, kS4, kS5, kS6, kS7, kS8, kS9, kS10, kS11, kS12, kS13, kS14, kS15, kS16, kS17, kS18, kS19, kS20, kS21, kS22, kS23, kS24, kS25, kS26, kS27, kS28, kS30, kS31, kS32, kS33, kS34, kS35, kS36, kS37, kS38, kS39, kS40, kS41, kS42, kS43, kS51, kS52, kS53, List.getElem?_cons_zero, List.getElem?_cons_succ, List.set_cons_zero, List.set_cons_succ, List.length_cons, List.length_nil, List.drop_succ_cons, List.drop_zero, List.cons_append, List.nil_append, Option.toList_some, Option.toList_none, cz, ci2, true_and, and_true, and_self, true_or, or_true, nI_1, Nat.reduceAdd, Nat.reduceLT]
        refine ⟨fun _ => h, fun h => absurd (by decide) h⟩
      | succ q ihq =>
        intro hq3 X1 c c' hov hc
        have ho : 3 - (q + 1) < 3 := by omega
        have e2 : 2 - q = 3 - (q + 1) := by omega
        rw [cn3] at hc
        rw [e2] at hc
        have hft := hov.tell (nI a) (nI (3 - (q + 1)))
        obtain ⟨X3, b1, b2⟩ := ih (tellX X1 g (nI L[k].1) (nI L[k].2) (nI a) (nI (3 - (q + 1)))) (by omega) ((hL.fr hov.1 (by decide) (by decide)).fr (tell_fr4 _ _ _ _ _ _) (by decide) (by decide)) ((hG.fr hov.1 (by decide) (by decide)).fr (tell_fr4 _ _ _ _ _ _) (by decide) (by decide)) (fun p hp => by
          rw [hft.at 4 (by decide), hft.at 4 (by decide)]
          exact hLF _ _ p hp)
        rw [cntX_fr _ hft] at b1
        obtain ⟨X4, c1, c2⟩ := ihq (by omega) X3 (c + cntX g n w pl (L.take k).reverse (tellX X g (nI L[k].1) (nI L[k].2) (nI a) (nI (3 - (q + 1))))) c' (hov.back (hft.tr b2)) (by omega)
        refine ⟨X4, c1, fun o Z h => ?_⟩
        have h9 := c2 o Z h
        rw [show 3 - q = 3 - (q + 1) + 1 by omega] at h9
        refine ev_seg rfl ?_
        simp only [TE, sxs, sx, ldI, ldA, stI, stA, inc, gtF, ptF, ldX, stX, ldR, ldL, stL, dp1, dp2, Tm, kS0, kS1, kS2, kS3, kS4, kS5, kS6, kS7, kS8, kS9, kS10, kS11, kS12, kS13, kS14, kS15, kS16, kS17, kS18, kS19, kS20, kS21, kS22, kS23, kS24, kS25, kS26, kS27, kS28, kS30, kS31, kS32, kS33, kS34, kS35, kS36, kS37, kS38, kS39, kS40, kS41, kS42, kS43, kS51, kS52, kS53, List.getElem?_cons_zero, List.getElem?_cons_succ, List.set_cons_zero, List.set_cons_succ, List.length_cons, List.length_nil, List.drop_succ_cons, List.drop_zero, List.cons_append, List.nil_append, Option.toList_some, Option.toList_none, cz, ci2, true_and, and_true, and_self, true_or, or_true, nI_1, Nat.reduceAdd, Nat.reduceLT]
        refine ⟨fun h => absurd h (i_nlt (nleI (b := 2) (by omega) (by decide))), fun _ => ?_⟩
        refine ev_seg rfl ?_
        simp only [TE, sxs, sx, ldI, ldA, stI, stA, inc, gtF, ptF, ldX, stX, ldR, ldL, stL, dp1, dp2, Tm, kS0, kS1, kS2, kS3, kS4, kS5, kS6, kS7, kS8, kS9, kS10, kS11, kS12, kS13, kS14, kS15, kS16, kS17, kS18, kS19, kS20, kS21, kS22, kS23, kS24, kS25, kS26, kS27, kS28, kS30, kS31, kS32, kS33, kS34, kS35, kS36, kS37, kS38, kS39, kS40, kS41, kS42, kS43, kS51, kS52, kS53, List.getElem?_cons_zero, List.getElem?_cons_succ, List.set_cons_zero, List.set_cons_succ, List.length_cons, List.length_nil, List.drop_succ_cons, List.drop_zero, List.cons_append, List.nil_append, Option.toList_some, Option.toList_none, cz, ci2, true_and, and_true, and_self, true_or, or_true, nI_1, Nat.reduceAdd, Nat.reduceLT]
        refine cu5 rfl rfl (by first | exact rfl | exact trivial) (s_tell v1 v2) ?_
        refine ev_seg rfl ?_
        simp only [TE, sxs, sx, ldI, ldA, stI, stA, inc, gtF, ptF, ldX, stX, ldR, ldL, stL, dp1, dp2, Tm, kS0, kS1, kS2, kS3, kS4, kS5, kS6, kS7, kS8, kS9, kS10, kS11, kS12, kS13, kS14, kS15, kS16, kS17, kS18, kS19, kS20, kS21, kS22, kS23, kS24, kS25, kS26, kS27, kS28, kS30, kS31, kS32, kS33, kS34, kS35, kS36, kS37, kS38, kS39, kS40, kS41, kS42, kS43, kS51, kS52, kS53, List.getElem?_cons_zero, List.getElem?_cons_succ, List.set_cons_zero, List.set_cons_succ, List.length_cons, List.length_nil, List.drop_succ_cons, List.drop_zero, List.cons_append, List.nil_append, Option.toList_some, Option.toList_none, cz, ci2, true_and, and_true, and_self, true_or, or_true, nI_1, Nat.reduceAdd, Nat.reduceLT, nI_pr]
        refine cv6 rfl rfl (by first | exact rfl | exact trivial) (b1) ?_
        refine ev_seg rfl ?_
        simp only [TE, sxs, sx, ldI, ldA, stI, stA, inc, gtF, ptF, ldX, stX, ldR, ldL, stL, dp1, dp2, Tm, kS0, kS1, kS2, kS3, kS4, kS5, kS6, kS7, kS8, kS9, kS10, kS11, kS12, kS13, kS14, kS15, kS16, kS17, kS18, kS19, kS20, kS21, kS22, kS23, kS24, kS25, kS26, kS27, kS28, kS30, kS31, kS32, kS33, kS34, kS35, kS36, kS37, kS38, kS39, kS40, kS41, kS42, kS43, kS51, kS52, kS53, List.getElem?_cons_zero, List.getElem?_cons_succ, List.set_cons_zero, List.set_cons_succ, List.length_cons, List.length_nil, List.drop_succ_cons, List.drop_zero, List.cons_append, List.nil_append, Option.toList_some, Option.toList_none, cz, ci2, true_and, and_true, and_self, true_or, or_true, nI_1, Nat.reduceAdd, Nat.reduceLT, nI_ad]
        exact h9
    have outer : ∀ q, q ≤ 3 → ∀ (X1 : XT) (c : Nat) (z : AV), OV X X1 g (nI L[k].1) (nI L[k].2) → c + cn3 (fun a => cn3 (fun b => cntX g n w pl (L.take k).reverse (tellX X g (nI L[k].1) (nI L[k].2) (nI a) (nI b))) 3) q = cntX g n w pl (L.take (k + 1)).reverse X →
        ∃ Z, Ev sc (d + 12 + (k + 1)) 42 10 [vR 25 0 0, vR 2 0 g, vI (nI w), vI (nI pl), vR 8 0 0, vI (nI (k + 1)), vI (nI L[k].1), vI (nI L[k].2), vI (nI c), vI (nI (3 - q)), z] [] X1 (.inl (some (.inl (nI (cntX g n w pl (L.take (k + 1)).reverse X))))) Z 0 ∧ Fr [11, 12, 14] X Z := by
      intro q
      induction q with
      | zero =>
        intro _ X1 c z hov hc
        refine ⟨tellX X1 g (nI L[k].1) (nI L[k].2) (-1) (-1), ?_, hov.untell hc1 hc2⟩
        rw [cn3, Nat.add_zero] at hc
        rw [hc]
        refine ev_seg rfl ?_
        simp only [TE, sxs, sx, ldI, ldA, stI, stA, inc, gtF, ptF, ldX, stX, ldR, ldL, stL, dp1, dp2, Tm, kS0, kS1, kS2, kS3, kS4, kS5, kS6, kS7, kS8, kS9, kS10, kS11, kS12, kS13, kS14, kS15, kS16, kS17, kS18, kS19, kS20, kS21, kS22, kS23, kS24, kS25, kS26, kS27, kS28, kS30, kS31, kS32, kS33, kS34, kS35, kS36, kS37, kS38, kS39, kS40, kS41, kS42, kS43, kS51, kS52, kS53, List.getElem?_cons_zero, List.getElem?_cons_succ, List.set_cons_zero, List.set_cons_succ, List.length_cons, List.length_nil, List.drop_succ_cons, List.drop_zero, List.cons_append, List.nil_append, Option.toList_some, Option.toList_none, cz, ci2, true_and, and_true, and_self, true_or, or_true, nI_1, Nat.reduceAdd, Nat.reduceLT]
        refine ⟨fun _ => ?_, fun h => absurd (by decide) h⟩
        refine ev_seg rfl ?_
        simp only [TE, sxs, sx, ldI, ldA, stI, stA, inc, gtF, ptF, ldX, stX, ldR, ldL, stL, dp1, dp2, Tm, kS0, kS1, kS2, kS3, kS4, kS5, kS6, kS7, kS8, kS9, kS10, kS11, kS12, kS13, kS14, kS15, kS16, kS17, kS18, kS19, kS20, kS21, kS22, kS23, kS24, kS25, kS26, kS27, kS28, kS30, kS31, kS32, kS33, kS34, kS35, kS36, kS37, kS38, kS39, kS40, kS41, kS42, kS43, kS51, kS52, kS53, List.getElem?_cons_zero, List.getElem?_cons_succ, List.set_cons_zero, List.set_cons_succ, List.length_cons, List.length_nil, List.drop_succ_cons, List.drop_zero, List.cons_append, List.nil_append, Option.toList_some, Option.toList_none, cz, ci2, true_and, and_true, and_self, true_or, or_true, nI_1, Nat.reduceAdd, Nat.reduceLT]
        refine cu3 rfl rfl (by first | exact rfl | exact trivial) (Ev_d (d' := d + 12 + k) (s_untell (d := 0) v1 v2) (by omega)) ?_
        refine ev_seg rfl ?_
        simp only [TE, sxs, sx, ldI, ldA, stI, stA, inc, gtF, ptF, ldX, stX, ldR, ldL, stL, dp1, dp2, Tm, kS0, kS1, kS2, kS3, kS4, kS5, kS6, kS7, kS8, kS9, kS10, kS11, kS12, kS13, kS14, kS15, kS16, kS17, kS18, kS19, kS20, kS21, kS22, kS23, kS24, kS25, kS26, kS27, kS28, kS30, kS31, kS32, kS33, kS34, kS35, kS36, kS37, kS38, kS39, kS40, kS41, kS42, kS43, kS51, kS52, kS53, List.getElem?_cons_zero, List.getElem?_cons_succ, List.set_cons_zero, List.set_cons_succ, List.length_cons, List.length_nil, List.drop_succ_cons, List.drop_zero, List.cons_append, List.nil_append, Option.toList_some, Option.toList_none, cz, ci2, true_and, and_true, and_self, true_or, or_true, nI_1, Nat.reduceAdd, Nat.reduceLT]
      | succ q ihq =>
        intro hq3 X1 c z hov hc
        have ho : 3 - (q + 1) < 3 := by omega
        have e2 : 2 - q = 3 - (q + 1) := by omega
        rw [cn3] at hc
        rw [e2] at hc
        obtain ⟨X2, c1, c2⟩ := inner (3 - (q + 1)) ho 3 (Nat.le_refl _) X1 c _ hov rfl
        obtain ⟨Z, d1, d2⟩ := ihq (by omega) X2 _ (vI (nI 3)) c1 (by rw [Nat.add_assoc]; exact hc)
        refine ⟨Z, ?_, d2⟩
        rw [show 3 - q = 3 - (q + 1) + 1 by omega] at d1
        refine ev_seg rfl ?_
        simp only [TE, sxs, sx, ldI, ldA, stI, stA, inc, gtF, ptF, ldX, stX, ldR, ldL, stL, dp1, dp2, Tm, kS0, kS1, kS2, kS3, kS4, kS5, kS6, kS7, kS8, kS9, kS10, kS11, kS12, kS13, kS14, kS15, kS16, kS17, kS18, kS19, kS20, kS21, kS22, kS23, kS24, kS25, kS26, kS27, kS28, kS30, kS31, kS32, kS33, kS34, kS35, kS36, kS37, kS38, kS39, kS40, kS41, kS42, kS43, kS51, kS52, kS53, List.getElem?_cons_zero, List.getElem?_cons_succ, List.set_cons_zero, List.set_cons_succ, List.length_cons, List.length_nil, List.drop_succ_cons, List.drop_zero, List.cons_append, List.nil_append, Option.toList_some, Option.toList_none, cz, ci2, true_and, and_true, and_self, true_or, or_true, nI_1, Nat.reduceAdd, Nat.reduceLT]
        refine ⟨fun h => absurd h (i_nlt (nleI (b := 2) (by omega) (by decide))), fun _ => ?_⟩
        refine ev_seg rfl ?_
        simp only [TE, sxs, sx, ldI, ldA, stI, stA, inc, gtF, ptF, ldX, stX, ldR, ldL, stL, dp1, dp2, Tm, kS0, kS1, kS2, kS3, kS4, kS5, kS6, kS7, kS8, kS9, kS10, kS11, kS12, kS13, kS14, kS15, kS16, kS17, kS18, kS19, kS20, kS21, kS22, kS23, kS24, kS25, kS26, kS27, kS28, kS30, kS31, kS32, kS33, kS34, kS35, kS36, kS37, kS38, kS39, kS40, kS41, kS42, kS43, kS51, kS52, kS53, List.getElem?_cons_zero, List.getElem?_cons_succ, List.set_cons_zero, List.set_cons_succ, List.length_cons, List.length_nil, List.drop_succ_cons, List.drop_zero, List.cons_append, List.nil_append, Option.toList_some, Option.toList_none, cz, ci2, true_and, and_true, and_self, true_or, or_true, nI_1, Nat.reduceAdd, Nat.reduceLT]
        refine c2 _ _ ?_
        refine ev_seg rfl ?_
        simp only [TE, sxs, sx, ldI, ldA, stI, stA, inc, gtF, ptF, ldX, stX, ldR, ldL, stL, dp1, dp2, Tm, kS0, kS1, kS2, kS3, kS4, kS5, kS6, kS7, kS8, kS9, kS10, kS11, kS12, kS13, kS14, kS15, kS16, kS17, kS18, kS19, kS20, kS21, kS22, kS23, kS24, kS25, kS26, kS27, kS28, kS30, kS31, kS32, kS33, kS34, kS35, kS36, kS37, kS38, kS39, kS40, kS41, kS42, kS43, kS51, kS52, kS53, List.getElem?_cons_zero, List.getElem?_cons_succ, List.set_cons_zero, List.set_cons_succ, List.length_cons, List.length_nil, List.drop_succ_cons, List.drop_zero, List.cons_append, List.nil_append, Option.toList_some, Option.toList_none, cz, ci2, true_and, and_true, and_self, true_or, or_true, nI_1, Nat.reduceAdd, Nat.reduceLT]
        exact d1
    obtain ⟨Z, a1, a2⟩ := outer 3 (Nat.le_refl _) X 0 av0 (OV.rf _ _ _ _) (by rw [Nat.zero_add, take_rev hk1, cntX])
    refine ⟨Z, ?_, a2⟩
    have lk := hL k hk1
    rw [en42]
    refine ev_seg rfl ?_
    simp only [TE, sxs, sx, ldI, ldA, stI, stA, inc, gtF, ptF, ldX, stX, ldR, ldL, stL, dp1, dp2, Tm, kS0, kS1, kS2, kS3, kS4, kS5, kS6, kS7, kS8, kS9, kS10, kS11, kS12, kS13, kS14, kS15, kS16, kS17, kS18, kS19, kS20, kS21, kS22, kS23, kS24, kS25, kS26, kS27, kS28, kS30, kS31, kS32, kS33, kS34, kS35, kS36, kS37, kS38, kS39, kS40, kS41, kS42, kS43, kS51, kS52, kS53, List.getElem?_cons_zero, List.getElem?_cons_succ, List.set_cons_zero, List.set_cons_succ, List.length_cons, List.length_nil, List.drop_succ_cons, List.drop_zero, List.cons_append, List.nil_append, Option.toList_some, Option.toList_none, cz, ci2, true_and, and_true, and_self, true_or, or_true, nI_1, Nat.reduceAdd, Nat.reduceLT]
    refine ⟨fun _ => ?_, fun h => absurd (nI_lt (a := 0) (by omega) (by omega)) h⟩
    refine ev_seg rfl ?_
    simp only [TE, sxs, sx, ldI, ldA, stI, stA, inc, gtF, ptF, ldX, stX, ldR, ldL, stL, dp1, dp2, Tm, kS0, kS1, kS2, kS3, kS4, kS5, kS6, kS7, kS8, kS9, kS10, kS11, kS12, kS13, kS14, kS15, kS16, kS17, kS18, kS19, kS20, kS21, kS22, kS23, kS24, kS25, kS26, kS27, kS28, kS30, kS31, kS32, kS33, kS34, kS35, kS36, kS37, kS38, kS39, kS40, kS41, kS42, kS43, kS51, kS52, kS53, List.getElem?_cons_zero, List.getElem?_cons_succ, List.set_cons_zero, List.set_cons_succ, List.length_cons, List.length_nil, List.drop_succ_cons, List.drop_zero, List.cons_append, List.nil_append, Option.toList_some, Option.toList_none, cz, ci2, true_and, and_true, and_self, true_or, or_true, nI_1, Nat.reduceAdd, Nat.reduceLT, nI_pr]
    refine cv2 rfl rfl (by first | exact rfl | exact trivial) (s_lowerOf26 vk) ?_
    rw [lk.1]
    refine ev_seg rfl ?_
    simp only [TE, sxs, sx, ldI, ldA, stI, stA, inc, gtF, ptF, ldX, stX, ldR, ldL, stL, dp1, dp2, Tm, kS0, kS1, kS2, kS3, kS4, kS5, kS6, kS7, kS8, kS9, kS10, kS11, kS12, kS13, kS14, kS15, kS16, kS17, kS18, kS19, kS20, kS21, kS22, kS23, kS24, kS25, kS26, kS27, kS28, kS30, kS31, kS32, kS33, kS34, kS35, kS36, kS37, kS38, kS39, kS40, kS41, kS42, kS43, kS51, kS52, kS53, List.getElem?_cons_zero, List.getElem?_cons_succ, List.set_cons_zero, List.set_cons_succ, List.length_cons, List.length_nil, List.drop_succ_cons, List.drop_zero, List.cons_append, List.nil_append, Option.toList_some, Option.toList_none, cz, ci2, true_and, and_true, and_self, true_or, or_true, nI_1, Nat.reduceAdd, Nat.reduceLT, nI_pr]
    refine cv2 rfl rfl (by first | exact rfl | exact trivial) (s_upperOf26 vk) ?_
    rw [lk.2]
    refine ev_seg rfl ?_
    simp only [TE, sxs, sx, ldI, ldA, stI, stA, inc, gtF, ptF, ldX, stX, ldR, ldL, stL, dp1, dp2, Tm, kS0, kS1, kS2, kS3, kS4, kS5, kS6, kS7, kS8, kS9, kS10, kS11, kS12, kS13, kS14, kS15, kS16, kS17, kS18, kS19, kS20, kS21, kS22, kS23, kS24, kS25, kS26, kS27, kS28, kS30, kS31, kS32, kS33, kS34, kS35, kS36, kS37, kS38, kS39, kS40, kS41, kS42, kS43, kS51, kS52, kS53, List.getElem?_cons_zero, List.getElem?_cons_succ, List.set_cons_zero, List.set_cons_succ, List.length_cons, List.length_nil, List.drop_succ_cons, List.drop_zero, List.cons_append, List.nil_append, Option.toList_some, Option.toList_none, cz, ci2, true_and, and_true, and_self, true_or, or_true, nI_1, Nat.reduceAdd, Nat.reduceLT]
    exact a1
theorem allQ_nd : ∀ n, n ≤ 5 → (allQ n 0 n).Nodup := by decide +kernel
theorem lfA_nd {S : Nat → Nat → Int32} {n : Nat} (h : n ≤ 5) : (lfA S n).Nodup := (allQ_nd n h).sublist List.filter_sublist
theorem s_through {n w pl : Nat} (hG : GLK X g n) (hS : SY (scC X g) n) (hw : w < n) (hp : pl ≤ 2) :
    ∃ Z, Ev sc (d + 23) 41 0 (ent 41 [vR 25 0 0, vR 2 0 g, vI (nI w), vI (nI pl), vR 8 0 0]) [] X (.inl (some (.inl (nI (cntX g n w pl (lfA (scC X g) n).reverse X))))) Z 0 ∧ Fr [11, 12, 14, 27, 28] X Z := by
  have h5 := hG.2.2.1
  obtain ⟨X1, L, b1, b2, b3, b4⟩ := s_list26 (sc := sc) (d := d) (g := g) hG.1 h5
  have hl : L.length ≤ 10 := by rw [b4]; exact lfA_len h5
  have htk : L.take L.length = L := List.take_length
  obtain ⟨Z, c1, c2⟩ := s_countFrom (sc := sc) (d := d) (g := g) (L := L) h5 hw hp hl (fun p hq => by
    rw [b4] at hq
    have := lfA_mem hq
    exact ⟨this.1, this.2.1⟩) (by rw [b4]; exact lfA_nd h5) L.length X1 (Nat.le_refl _) b3 (hG.fr b2 (by decide) (by decide)) (fun p hq => by
    rw [htk, b4] at hq
    have := lfA_mem hq
    rw [b2.at 4 (by decide), b2.at 4 (by decide)]
    exact ⟨this.2.2, (hS.2 p.1 p.2 (by omega) this.2.1).mp this.2.2⟩)
  have hcn : ∀ (R : List (Nat × Nat)) {X X' : XT}, Fr [27, 28] X X' → cntX g n w pl R X' = cntX g n w pl R X := by
    intro R
    induction R with
    | nil =>
      intro X X' h
      rw [cntX, cntX, PTX_fr h (by decide) (by decide) (by decide) (by decide) (by decide)]
    | cons p R ih =>
      intro X X' h
      rw [cntX, cntX]
      exact cn3_congr fun a => cn3_congr fun b => ih (tell_fr h (by decide) _ _ _ _ _)
  rw [htk, hcn _ b2] at c1
  refine ⟨Z, ?_, (b2.mo (by decide)).tr (c2.mo (by decide))⟩
  rw [← b4, en41]
  refine ev_seg rfl ?_
  simp only [TE, sxs, sx, ldI, ldA, stI, stA, inc, gtF, ptF, ldX, stX, ldR, ldL, stL, dp1, dp2, Tm, kS0, kS1, kS2, kS3, kS4, kS5, kS6, kS7, kS8, kS9, kS10, kS11, kS12, kS13, kS14, kS15, kS16, kS17, kS18, kS19, kS20, kS21, kS22, kS23, kS24, kS25, kS26, kS27, kS28, kS30, kS31, kS32, kS33, kS34, kS35, kS36, kS37, kS38, kS39, kS40, kS41, kS42, kS43, kS51, kS52, kS53, List.getElem?_cons_zero, List.getElem?_cons_succ, List.set_cons_zero, List.set_cons_succ, List.length_cons, List.length_nil, List.drop_succ_cons, List.drop_zero, List.cons_append, List.nil_append, Option.toList_some, Option.toList_none, cz, ci2, true_and, and_true, and_self, true_or, or_true, nI_1, Nat.reduceAdd, Nat.reduceLT]
  refine cv2 rfl rfl (by first | exact rfl | exact trivial) (Ev_d (d' := d + 22) b1 (by omega)) ?_
  refine ev_seg rfl ?_
  simp only [TE, sxs, sx, ldI, ldA, stI, stA, inc, gtF, ptF, ldX, stX, ldR, ldL, stL, dp1, dp2, Tm, kS0, kS1, kS2, kS3, kS4, kS5, kS6, kS7, kS8, kS9, kS10, kS11, kS12, kS13, kS14, kS15, kS16, kS17, kS18, kS19, kS20, kS21, kS22, kS23, kS24, kS25, kS26, kS27, kS28, kS30, kS31, kS32, kS33, kS34, kS35, kS36, kS37, kS38, kS39, kS40, kS41, kS42, kS43, kS51, kS52, kS53, List.getElem?_cons_zero, List.getElem?_cons_succ, List.set_cons_zero, List.set_cons_succ, List.length_cons, List.length_nil, List.drop_succ_cons, List.drop_zero, List.cons_append, List.nil_append, Option.toList_some, Option.toList_none, cz, ci2, true_and, and_true, and_self, true_or, or_true, nI_1, Nat.reduceAdd, Nat.reduceLT]
  refine cv6 rfl rfl (by first | exact rfl | exact trivial) (Ev_d (d' := d + 22) c1 (by omega)) ?_
  refine ev_seg rfl ?_
  simp only [TE, sxs, sx, ldI, ldA, stI, stA, inc, gtF, ptF, ldX, stX, ldR, ldL, stL, dp1, dp2, Tm, kS0, kS1, kS2, kS3, kS4, kS5, kS6, kS7, kS8, kS9, kS10, kS11, kS12, kS13, kS14, kS15, kS16, kS17, kS18, kS19, kS20, kS21, kS22, kS23, kS24, kS25, kS26, kS27, kS28, kS30, kS31, kS32, kS33, kS34, kS35, kS36, kS37, kS38, kS39, kS40, kS41, kS42, kS43, kS51, kS52, kS53, List.getElem?_cons_zero, List.getElem?_cons_succ, List.set_cons_zero, List.set_cons_succ, List.length_cons, List.length_nil, List.drop_succ_cons, List.drop_zero, List.cons_append, List.nil_append, Option.toList_some, Option.toList_none, cz, ci2, true_and, and_true, and_self, true_or, or_true, nI_1, Nat.reduceAdd, Nat.reduceLT]
end Scr
