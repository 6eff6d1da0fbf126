/-! sorting a stretch of the table -/
section Srt
variable {sc : SC} {d : Nat} {X : XT}
theorem s_isB9 {r s : Int32} {m : Nat} (hr : vp_in r 5) (hs : vp_in s 5) (hm : m ≤ 4) : Ev sc (d + 1) 31 0 (ent 31 [vR 9 0 0, vI r, vI s, vI (nI m)]) [] X (.inl (some (.inl (bI (betB (fun c => X.1 11 0 r (nI c)) (fun c => X.1 11 0 s (nI c)) m = true))))) X 0 := by
  have h := @s_isBetter9 sc d X r s m hr hs hm (betD _ _ _)
  have e : bI (betB (fun c => X.1 11 0 r (nI c)) (fun c => X.1 11 0 s (nI c)) m = true) = @bI (bet (fun c => X.1 11 0 r (nI c)) (fun c => X.1 11 0 s (nI c)) m) (betD _ _ _) := by
    by_cases q : bet (fun c => X.1 11 0 r (nI c)) (fun c => X.1 11 0 s (nI c)) m
    · rw [bI_t (betB_iff.mpr q), @bI_t _ (betD _ _ _) q]
    · rw [bI_f (fun w => q (betB_iff.mp w)), @bI_f _ (betD _ _ _) q]
  rw [e]
  exact h
/-- nothing but these kinds has changed -/
def Fr (K : List Nat) (X X' : XT) : Prop := X'.2 = X.2 ∧ ∀ k, k ∉ K → X'.1 k = X.1 k
theorem Fr.rf (K : List Nat) (X : XT) : Fr K X X := ⟨rfl, fun _ _ => rfl⟩
theorem Fr.tr {K : List Nat} {X Y Z : XT} (h1 : Fr K X Y) (h2 : Fr K Y Z) : Fr K X Z := ⟨h2.1.trans h1.1, fun k hk => (h2.2 k hk).trans (h1.2 k hk)⟩
theorem Fr.mo {K K' : List Nat} {X Y : XT} (h : Fr K X Y) (hK : ∀ k, k ∈ K → k ∈ K') : Fr K' X Y := ⟨h.1, fun k hk => h.2 k (fun q => hk (hK k q))⟩
theorem Fr.xs {K : List Nat} (X : XT) {k : Nat} (a b j x : Int32) (hk : k ∈ K) : Fr K X (xs X.1 k a b j x, X.2) := by
  refine ⟨rfl, fun k' hk' => ?_⟩
  funext a' b' j'
  show (if k' = k ∧ _ then _ else _) = _
  rw [if_neg]
  rintro ⟨rfl, -⟩
  exact hk' hk
theorem Fr.at {K : List Nat} {X Y : XT} (h : Fr K X Y) (k : Nat) (hk : k ∉ K) (a b j : Int32) : Y.1 k a b j = X.1 k a b j := by rw [h.2 k hk]
def OrdH (X : XT) (n : Nat) (σ : Nat → Nat) : Prop := ∀ i, i < n → X.1 12 0 0 (nI i) = nI (σ i) ∧ σ i < n
def mrow (X : XT) (z : Nat) : Nat → Int32 := fun c => X.1 11 0 (nI z) (nI c)
/-- the same teams in a stretch, in another order -/
def PS (s e : Nat) (σ σ' : Nat → Nat) : Prop := (∀ i, (i < s ∨ e ≤ i) → σ' i = σ i) ∧ (∀ i, s ≤ i → i < e → ∃ j, s ≤ j ∧ j < e ∧ σ' i = σ j) ∧ (∀ j, s ≤ j → j < e → ∃ i, s ≤ i ∧ i < e ∧ σ' i = σ j) ∧ ∀ n, e ≤ n → (∀ i j, i < n → j < n → σ i = σ j → i = j) → ∀ i j, i < n → j < n → σ' i = σ' j → i = j
theorem PS.rf (s e : Nat) (σ : Nat → Nat) : PS s e σ σ := ⟨fun _ _ => rfl, fun i h1 h2 => ⟨i, h1, h2, rfl⟩, fun i h1 h2 => ⟨i, h1, h2, rfl⟩, fun _ _ h => h⟩
theorem PS.tr {s e : Nat} {σ τ υ : Nat → Nat} (h1 : PS s e σ τ) (h2 : PS s e τ υ) : PS s e σ υ := by
  refine ⟨fun i hi => (h2.1 i hi).trans (h1.1 i hi), fun i a b => ?_, fun j a b => ?_, fun n hn h => h2.2.2.2 n hn (h1.2.2.2 n hn h)⟩
  · obtain ⟨j, c1, c2, c3⟩ := h2.2.1 i a b
    obtain ⟨q, d1, d2, d3⟩ := h1.2.1 j c1 c2
    exact ⟨q, d1, d2, c3.trans d3⟩
  · obtain ⟨i, c1, c2, c3⟩ := h1.2.2.1 j a b
    obtain ⟨q, d1, d2, d3⟩ := h2.2.2.1 i c1 c2
    exact ⟨q, d1, d2, d3.trans c3⟩
theorem PS.mo {s e s' e' : Nat} {σ τ : Nat → Nat} (h : PS s e σ τ) (hs : s' ≤ s) (he : e ≤ e') : PS s' e' σ τ := by
  refine ⟨fun i hi => h.1 i (by omega), fun i a b => ?_, fun j a b => ?_, fun n hn => h.2.2.2 n (by omega)⟩
  · by_cases hi : s ≤ i ∧ i < e
    · obtain ⟨j, c1, c2, c3⟩ := h.2.1 i hi.1 hi.2
      exact ⟨j, by omega, by omega, c3⟩
    · exact ⟨i, a, b, h.1 i (by omega)⟩
  · by_cases hi : s ≤ j ∧ j < e
    · obtain ⟨i, c1, c2, c3⟩ := h.2.2.1 j hi.1 hi.2
      exact ⟨i, by omega, by omega, c3⟩
    · exact ⟨j, a, b, h.1 j (by omega)⟩
def swp (σ : Nat → Nat) (t : Nat) : Nat → Nat := fun i => if i = t + 1 then σ t else if i = t then σ (t + 1) else σ i
theorem swp_ps {s e t : Nat} {σ : Nat → Nat} (h1 : s ≤ t) (h2 : t + 1 < e) : PS s e σ (swp σ t) := by
  have inv : ∀ i, ∃ j, (i = j ∨ (i = t ∧ j = t + 1) ∨ (i = t + 1 ∧ j = t)) ∧ swp σ t i = σ j ∧ swp σ t j = σ i ∧ (i = t + 1 → j = t) ∧ (i = t → j = t + 1) := by
    intro i
    unfold swp
    by_cases a : i = t + 1
    · exact ⟨t, by omega, by simp [a], by simp [a], by omega, by omega⟩
    · by_cases b : i = t
      · exact ⟨t + 1, by omega, by simp [b], by simp [b], by omega, by omega⟩
      · exact ⟨i, by omega, by simp [a, b], by simp [a, b], by omega, by omega⟩
  refine ⟨fun i hi => ?_, fun i a b => ?_, fun j a b => ?_, fun n hn hinj i j hi hj he => ?_⟩
  · unfold swp
    rw [if_neg (by omega), if_neg (by omega)]
  · obtain ⟨j, c, d1, d2, -, -⟩ := inv i
    exact ⟨j, by omega, by omega, d1⟩
  · obtain ⟨i, c, d1, d2, -, -⟩ := inv j
    exact ⟨i, by omega, by omega, d2⟩
  · obtain ⟨i', c, d1, d2, c3, c4⟩ := inv i
    obtain ⟨j', c', d1', d2', c3', c4'⟩ := inv j
    rw [d1, d1'] at he
    have := hinj i' j' (by omega) (by omega) he
    omega
/-- sorted on a stretch -/
def Srd (X : XT) (m s p : Nat) (σ : Nat → Nat) : Prop := ∀ i j, s ≤ i → i < j → j < p → ¬ bet (mrow X (σ j)) (mrow X (σ i)) m
abbrev aL (s e m : Nat) (fr : Int32) (a b c : AV) : List AV := [vR 8 0 0, vI (nI s), vI (nI e), vI (nI m), vI fr, a, b, c]
theorem arr_in {s e m n p : Nat} {fr : Int32} (hn : n ≤ 5) (he : e ≤ n) (hm : m ≤ 4) (hp : p < e) : ∀ (t : Nat) (X : XT) (σ : Nat → Nat) (z : AV), s ≤ t → t ≤ p → OrdH X n σ →
    (∀ i j, s ≤ i → i < j → j ≤ p → i ≠ t → j ≠ t → ¬ bet (mrow X (σ j)) (mrow X (σ i)) m) → (∀ j, t < j → j ≤ p → ¬ bet (mrow X (σ j)) (mrow X (σ t)) m) →
    ∃ (X' : XT) (σ' : Nat → Nat) (z6 z7 : AV), OrdH X' n σ' ∧ PS s e σ σ' ∧ Fr [12] X X' ∧ Srd X' m s (p + 1) σ' ∧ ∀ Z, Ev sc (d + 2) 51 7 (aL s e m fr (vI (nI p)) z6 z7) [] X' (.inl none) Z 0 → Ev sc (d + 2) 51 3 (aL s e m fr (vI (nI p)) (vI (nI t)) z) [] X (.inl none) Z 0 := by
  intro t
  induction t with
  | zero =>
    intro X σ z hs0 hp0 hO h1 h2
    refine ⟨X, σ, vI (nI 0), z, hO, PS.rf _ _ _, Fr.rf _ _, fun i j a b c => ?_, fun Z hZ => ?_⟩
    · by_cases hi : i = 0
      · rw [hi]; exact h2 j (by omega) (by omega)
      · exact h1 i j a b (by omega) hi (by omega)
    · refine ev_seg rfl ?_
      simp only [TE, sxs, sx, ldI, ldA, stI, stA, inc, gtF, ptF, ldX, stX, ldR, ldL, stL, dp1, dp2, Tm, kS0, kS1, kS2, kS3, kS4, kS5, kS6, kS7, kS8, kS9, kS10, kS11, kS12, kS13, kS14, kS15, kS16, kS17, kS18, kS19, kS20, kS21, kS22, kS23, kS24, kS25, kS26, kS27, kS28, kS30, kS31, kS32, kS33, kS34, kS35, kS36, kS37, kS38, kS39, kS40, kS41, kS42, kS43, kS51, kS52, kS53, List.getElem?_cons_zero, List.getElem?_cons_succ, List.set_cons_zero, List.set_cons_succ, List.length_cons, List.length_nil, List.drop_succ_cons, List.drop_zero, List.cons_append, List.nil_append, Option.toList_some, Option.toList_none, cz, ci2, true_and, and_true, and_self, true_or, or_true, nI_1, Nat.reduceAdd, Nat.reduceLT]
      refine ⟨fun _ => hZ, fun h => absurd (nleI (by omega) (by omega)) h⟩
  | succ t ih =>
    intro X σ z hs0 hp0 hO h1 h2
    obtain ⟨o1, o2⟩ := hO (t + 1) (by omega)
    obtain ⟨o3, o4⟩ := hO t (by omega)
    have v1 : vp_in (nI (t + 1)) 5 := vpn (by omega) (by decide)
    have v2 : vp_in (nI t) 5 := vpn (by omega) (by decide)
    have w1 : vp_in (nI (σ (t + 1))) 5 := vpn (by omega) (by decide)
    have w2 : vp_in (nI (σ t)) 5 := vpn (by omega) (by decide)
    by_cases hst : s = t + 1
    · refine ⟨X, σ, vI (nI (t + 1)), z, hO, PS.rf _ _ _, Fr.rf _ _, fun i j a b c => ?_, fun Z hZ => ?_⟩
      · by_cases hi : i = t + 1
        · rw [hi]; exact h2 j (by omega) (by omega)
        · exact h1 i j a b (by omega) hi (by omega)
      · refine ev_seg rfl ?_
        simp only [TE, sxs, sx, ldI, ldA, stI, stA, inc, gtF, ptF, ldX, stX, ldR, ldL, stL, dp1, dp2, Tm, kS0, kS1, kS2, kS3, kS4, kS5, kS6, kS7, kS8, kS9, kS10, kS11, kS12, kS13, kS14, kS15, kS16, kS17, kS18, kS19, kS20, kS21, kS22, kS23, kS24, kS25, kS26, kS27, kS28, kS30, kS31, kS32, kS33, kS34, kS35, kS36, kS37, kS38, kS39, kS40, kS41, kS42, kS43, kS51, kS52, kS53, List.getElem?_cons_zero, List.getElem?_cons_succ, List.set_cons_zero, List.set_cons_succ, List.length_cons, List.length_nil, List.drop_succ_cons, List.drop_zero, List.cons_append, List.nil_append, Option.toList_some, Option.toList_none, cz, ci2, true_and, and_true, and_self, true_or, or_true, nI_1, Nat.reduceAdd, Nat.reduceLT]
        refine ⟨fun _ => hZ, fun h => absurd (nleI (by omega) (by omega)) h⟩
    · have hst2 : s ≤ t := by omega
      by_cases hb : betB (mrow X (σ (t + 1))) (mrow X (σ t)) m = true
      · -- one up
        have hbt := betB_iff.mp hb
        generalize hX1 : ((xs (xs X.1 12 0 0 (nI (t + 1)) (nI (σ t))) 12 0 0 (nI t) (nI (σ (t + 1))), X.2) : XT) = X1
        have hf1 : Fr [12] X X1 := by
          rw [← hX1]
          exact (Fr.xs X 0 0 (nI (t + 1)) (nI (σ t)) (List.mem_singleton.mpr rfl)).tr (Fr.xs _ 0 0 (nI t) (nI (σ (t + 1))) (List.mem_singleton.mpr rfl))
        have hmr : ∀ q, mrow X1 q = mrow X q := by
          intro q
          funext c
          exact hf1.at 11 (by decide) _ _ _
        have hO1 : OrdH X1 n (swp σ t) := by
          intro i hi
          obtain ⟨p1, p2⟩ := hO i hi
          rw [← hX1]
          show xs (xs X.1 12 0 0 (nI (t + 1)) (nI (σ t))) 12 0 0 (nI t) (nI (σ (t + 1))) 12 0 0 (nI i) = nI (swp σ t i) ∧ _
          unfold swp
          by_cases a : i = t + 1
          · subst a
            rw [xs_nj _ _ _ _ _ (fun q => by have := nI_inj (by omega) (by omega) q; omega), xs_self, if_pos rfl]
            exact ⟨rfl, o4⟩
          · by_cases b : i = t
            · subst b
              rw [xs_self, if_neg a, if_pos rfl]
              exact ⟨rfl, o2⟩
            · rw [xs_nj _ _ _ _ _ (fun q => by have := nI_inj (by omega) (by omega) q; omega), xs_nj _ _ _ _ _ (fun q => by have := nI_inj (by omega) (by omega) q; omega), if_neg a, if_neg b]
              exact ⟨p1, p2⟩
        have s1 : swp σ t (t + 1) = σ t := by unfold swp; rw [if_pos rfl]
        have s2 : swp σ t t = σ (t + 1) := by unfold swp; rw [if_neg (by omega), if_pos rfl]
        have s3 : ∀ i, i ≠ t → i ≠ t + 1 → swp σ t i = σ i := by intro i a b; unfold swp; rw [if_neg b, if_neg a]
        obtain ⟨X', σ', z6, z7, g1, g2, g3, g4, g5⟩ := ih X1 (swp σ t) (vI (nI (σ (t + 1)))) hst2 (by omega) hO1 (by
          intro i j a b c hi hj
          rw [hmr, hmr]
          by_cases hj1 : j = t + 1
          · rw [hj1, s1, s3 i hi (by omega)]
            exact h1 i t a (by omega) (by omega) (by omega) (by omega)
          · by_cases hi1 : i = t + 1
            · rw [hi1, s1, s3 j hj hj1]
              exact h1 t j hst2 (by omega) c (by omega) hj1
            · rw [s3 i hi hi1, s3 j hj hj1]
              exact h1 i j a b c hi1 hj1) (by
          intro j a c
          rw [hmr, hmr, s2]
          by_cases hj1 : j = t + 1
          · rw [hj1, s1]
            exact bet_asym hbt
          · rw [s3 j (by omega) hj1]
            exact h2 j (by omega) c)
        refine ⟨X', σ', z6, z7, g1, (swp_ps hst2 (by omega)).tr g2, hf1.tr g3, g4, fun Z hZ => ?_⟩
        have hg := g5 Z hZ
        rw [← hX1] at hg
        refine ev_seg rfl ?_
        simp only [TE, sxs, sx, ldI, ldA, stI, stA, inc, gtF, ptF, ldX, stX, ldR, ldL, stL, dp1, dp2, Tm, kS0, kS1, kS2, kS3, kS4, kS5, kS6, kS7, kS8, kS9, kS10, kS11, kS12, kS13, kS14, kS15, kS16, kS17, kS18, kS19, kS20, kS21, kS22, kS23, kS24, kS25, kS26, kS27, kS28, kS30, kS31, kS32, kS33, kS34, kS35, kS36, kS37, kS38, kS39, kS40, kS41, kS42, kS43, kS51, kS52, kS53, List.getElem?_cons_zero, List.getElem?_cons_succ, List.set_cons_zero, List.set_cons_succ, List.length_cons, List.length_nil, List.drop_succ_cons, List.drop_zero, List.cons_append, List.nil_append, Option.toList_some, Option.toList_none, cz, ci2, true_and, and_true, and_self, true_or, or_true, nI_1, Nat.reduceAdd, Nat.reduceLT]
        refine ⟨fun h => absurd h (nle (by omega) (by omega)), fun _ => ?_⟩
        refine ev_seg rfl ?_
        simp only [TE, sxs, sx, ldI, ldA, stI, stA, inc, gtF, ptF, ldX, stX, ldR, ldL, stL, dp1, dp2, Tm, kS0, kS1, kS2, kS3, kS4, kS5, kS6, kS7, kS8, kS9, kS10, kS11, kS12, kS13, kS14, kS15, kS16, kS17, kS18, kS19, kS20, kS21, kS22, kS23, kS24, kS25, kS26, kS27, kS28, kS30, kS31, kS32, kS33, kS34, kS35, kS36, kS37, kS38, kS39, kS40, kS41, kS42, kS43, kS51, kS52, kS53, List.getElem?_cons_zero, List.getElem?_cons_succ, List.set_cons_zero, List.set_cons_succ, List.length_cons, List.length_nil, List.drop_succ_cons, List.drop_zero, List.cons_append, List.nil_append, Option.toList_some, Option.toList_none, cz, ci2, true_and, and_true, and_self, true_or, or_true, nI_1, Nat.reduceAdd, Nat.reduceLT, o1, o3, nI_pred]
        refine ⟨(by first | assumption | (and_intros <;> first | assumption | trivial | decide)), cv4 rfl rfl (by first | exact rfl | exact trivial) (s_isB9 w1 w2 hm) ?_⟩
        refine ev_seg rfl ?_
        simp only [TE, sxs, sx, ldI, ldA, stI, stA, inc, gtF, ptF, ldX, stX, ldR, ldL, stL, dp1, dp2, Tm, kS0, kS1, kS2, kS3, kS4, kS5, kS6, kS7, kS8, kS9, kS10, kS11, kS12, kS13, kS14, kS15, kS16, kS17, kS18, kS19, kS20, kS21, kS22, kS23, kS24, kS25, kS26, kS27, kS28, kS30, kS31, kS32, kS33, kS34, kS35, kS36, kS37, kS38, kS39, kS40, kS41, kS42, kS43, kS51, kS52, kS53, List.getElem?_cons_zero, List.getElem?_cons_succ, List.set_cons_zero, List.set_cons_succ, List.length_cons, List.length_nil, List.drop_succ_cons, List.drop_zero, List.cons_append, List.nil_append, Option.toList_some, Option.toList_none, cz, ci2, true_and, and_true, and_self, true_or, or_true, nI_1, Nat.reduceAdd, Nat.reduceLT, bI_eq]
        refine ⟨fun h => absurd hb h, fun _ => ?_⟩
        refine ev_seg rfl ?_
        simp only [TE, sxs, sx, ldI, ldA, stI, stA, inc, gtF, ptF, ldX, stX, ldR, ldL, stL, dp1, dp2, Tm, kS0, kS1, kS2, kS3, kS4, kS5, kS6, kS7, kS8, kS9, kS10, kS11, kS12, kS13, kS14, kS15, kS16, kS17, kS18, kS19, kS20, kS21, kS22, kS23, kS24, kS25, kS26, kS27, kS28, kS30, kS31, kS32, kS33, kS34, kS35, kS36, kS37, kS38, kS39, kS40, kS41, kS42, kS43, kS51, kS52, kS53, List.getElem?_cons_zero, List.getElem?_cons_succ, List.set_cons_zero, List.set_cons_succ, List.length_cons, List.length_nil, List.drop_succ_cons, List.drop_zero, List.cons_append, List.nil_append, Option.toList_some, Option.toList_none, cz, ci2, true_and, and_true, and_self, true_or, or_true, nI_1, Nat.reduceAdd, Nat.reduceLT, o1, o3, nI_pred]
        refine ⟨(by first | assumption | (and_intros <;> first | assumption | trivial | decide)), ?_⟩
        rw [show nI (t + 1) + (-1) = nI t from pk_m1 t]
        exact hg
      · refine ⟨X, σ, vI (nI (t + 1)), z, hO, PS.rf _ _ _, Fr.rf _ _, fun i j a b c => ?_, fun Z hZ => ?_⟩
        · have hnb : ¬ bet (mrow X (σ (t + 1))) (mrow X (σ t)) m := fun q => hb (betB_iff.mpr q)
          by_cases hi : i = t + 1
          · rw [hi]; exact h2 j (by omega) (by omega)
          · by_cases hj : j = t + 1
            · rw [hj]
              by_cases hit : i = t
              · rw [hit]; exact hnb
              · intro q
                rcases bet_neg (mrow X (σ t)) q with w | w
                · exact hnb w
                · exact h1 i t a (by omega) (by omega) hi (by omega) w
            · exact h1 i j a b (by omega) hi hj
        · refine ev_seg rfl ?_
          simp only [TE, sxs, sx, ldI, ldA, stI, stA, inc, gtF, ptF, ldX, stX, ldR, ldL, stL, dp1, dp2, Tm, kS0, kS1, kS2, kS3, kS4, kS5, kS6, kS7, kS8, kS9, kS10, kS11, kS12, kS13, kS14, kS15, kS16, kS17, kS18, kS19, kS20, kS21, kS22, kS23, kS24, kS25, kS26, kS27, kS28, kS30, kS31, kS32, kS33, kS34, kS35, kS36, kS37, kS38, kS39, kS40, kS41, kS42, kS43, kS51, kS52, kS53, List.getElem?_cons_zero, List.getElem?_cons_succ, List.set_cons_zero, List.set_cons_succ, List.length_cons, List.length_nil, List.drop_succ_cons, List.drop_zero, List.cons_append, List.nil_append, Option.toList_some, Option.toList_none, cz, ci2, true_and, and_true, and_self, true_or, or_true, nI_1, Nat.reduceAdd, Nat.reduceLT]
          refine ⟨fun h => absurd h (nle (by omega) (by omega)), fun _ => ?_⟩
          refine ev_seg rfl ?_
          simp only [TE, sxs, sx, ldI, ldA, stI, stA, inc, gtF, ptF, ldX, stX, ldR, ldL, stL, dp1, dp2, Tm, kS0, kS1, kS2, kS3, kS4, kS5, kS6, kS7, kS8, kS9, kS10, kS11, kS12, kS13, kS14, kS15, kS16, kS17, kS18, kS19, kS20, kS21, kS22, kS23, kS24, kS25, kS26, kS27, kS28, kS30, kS31, kS32, kS33, kS34, kS35, kS36, kS37, kS38, kS39, kS40, kS41, kS42, kS43, kS51, kS52, kS53, List.getElem?_cons_zero, List.getElem?_cons_succ, List.set_cons_zero, List.set_cons_succ, List.length_cons, List.length_nil, List.drop_succ_cons, List.drop_zero, List.cons_append, List.nil_append, Option.toList_some, Option.toList_none, cz, ci2, true_and, and_true, and_self, true_or, or_true, nI_1, Nat.reduceAdd, Nat.reduceLT, o1, o3, nI_pred]
          refine ⟨(by first | assumption | (and_intros <;> first | assumption | trivial | decide)), cv4 rfl rfl (by first | exact rfl | exact trivial) (s_isB9 w1 w2 hm) ?_⟩
          refine ev_seg rfl ?_
          simp only [TE, sxs, sx, ldI, ldA, stI, stA, inc, gtF, ptF, ldX, stX, ldR, ldL, stL, dp1, dp2, Tm, kS0, kS1, kS2, kS3, kS4, kS5, kS6, kS7, kS8, kS9, kS10, kS11, kS12, kS13, kS14, kS15, kS16, kS17, kS18, kS19, kS20, kS21, kS22, kS23, kS24, kS25, kS26, kS27, kS28, kS30, kS31, kS32, kS33, kS34, kS35, kS36, kS37, kS38, kS39, kS40, kS41, kS42, kS43, kS51, kS52, kS53, List.getElem?_cons_zero, List.getElem?_cons_succ, List.set_cons_zero, List.set_cons_succ, List.length_cons, List.length_nil, List.drop_succ_cons, List.drop_zero, List.cons_append, List.nil_append, Option.toList_some, Option.toList_none, cz, ci2, true_and, and_true, and_self, true_or, or_true, nI_1, Nat.reduceAdd, Nat.reduceLT, bI_eq]
          exact ⟨fun _ => hZ, fun h => absurd (Classical.not_not.mp h) hb⟩
theorem arr_sort {s e m n : Nat} {fr : Int32} (hn : n ≤ 5) (he : e ≤ n) (hm : m ≤ 4) : ∀ (q p : Nat) (X : XT) (σ : Nat → Nat) (z6 z7 : AV), p + q = e → s < p → OrdH X n σ → Srd X m s p σ →
    ∃ (X' : XT) (σ' : Nat → Nat) (z5' z6' z7' : AV), OrdH X' n σ' ∧ PS s e σ σ' ∧ Fr [12] X X' ∧ Srd X' m s e σ' ∧ ∀ Z, Ev sc (d + 2) 51 8 (aL s e m fr z5' z6' z7') [] X' (.inl none) Z 0 → Ev sc (d + 2) 51 1 (aL s e m fr (vI (nI p)) z6 z7) [] X (.inl none) Z 0 := by
  intro q
  induction q with
  | zero =>
    intro p X σ z6 z7 hpq hsp hO hs
    refine ⟨X, σ, vI (nI p), z6, z7, hO, PS.rf _ _ _, Fr.rf _ _, by rw [show e = p by omega]; exact hs, fun Z hZ => ?_⟩
    refine ev_seg rfl ?_
    simp only [TE, sxs, sx, ldI, ldA, stI, stA, inc, gtF, ptF, ldX, stX, ldR, ldL, stL, dp1, dp2, Tm, kS0, kS1, kS2, kS3, kS4, kS5, kS6, kS7, kS8, kS9, kS10, kS11, kS12, kS13, kS14, kS15, kS16, kS17, kS18, kS19, kS20, kS21, kS22, kS23, kS24, kS25, kS26, kS27, kS28, kS30, kS31, kS32, kS33, kS34, kS35, kS36, kS37, kS38, kS39, kS40, kS41, kS42, kS43, kS51, kS52, kS53, List.getElem?_cons_zero, List.getElem?_cons_succ, List.set_cons_zero, List.set_cons_succ, List.length_cons, List.length_nil, List.drop_succ_cons, List.drop_zero, List.cons_append, List.nil_append, Option.toList_some, Option.toList_none, cz, ci2, true_and, and_true, and_self, true_or, or_true, nI_1, Nat.reduceAdd, Nat.reduceLT]
    exact ⟨fun _ => hZ, fun h => absurd (nleI (by omega) (by omega)) h⟩
  | succ q ih =>
    intro p X σ z6 z7 hpq hsp hO hs
    obtain ⟨X1, σ1, y6, y7, a1, a2, a3, a4, a5⟩ := arr_in (sc := sc) (d := d) (fr := fr) (s := s) hn he hm (by omega : p < e) p X σ z7 (by omega) (Nat.le_refl _) hO (fun i j h1 h2 h3 h4 h5 => hs i j h1 h2 (by omega)) (fun j h1 h2 => absurd h1 (by omega))
    obtain ⟨X', σ', z5', z6', z7', b1, b2, b3, b4, b5⟩ := ih (p + 1) X1 σ1 y6 y7 (by omega) (by omega) a1 a4
    refine ⟨X', σ', z5', z6', z7', b1, a2.tr b2, a3.tr b3, b4, fun Z hZ => ?_⟩
    have h1 := b5 Z hZ
    refine ev_seg rfl ?_
    simp only [TE, sxs, sx, ldI, ldA, stI, stA, inc, gtF, ptF, ldX, stX, ldR, ldL, stL, dp1, dp2, Tm, kS0, kS1, kS2, kS3, kS4, kS5, kS6, kS7, kS8, kS9, kS10, kS11, kS12, kS13, kS14, kS15, kS16, kS17, kS18, kS19, kS20, kS21, kS22, kS23, kS24, kS25, kS26, kS27, kS28, kS30, kS31, kS32, kS33, kS34, kS35, kS36, kS37, kS38, kS39, kS40, kS41, kS42, kS43, kS51, kS52, kS53, List.getElem?_cons_zero, List.getElem?_cons_succ, List.set_cons_zero, List.set_cons_succ, List.length_cons, List.length_nil, List.drop_succ_cons, List.drop_zero, List.cons_append, List.nil_append, Option.toList_some, Option.toList_none, cz, ci2, true_and, and_true, and_self, true_or, or_true, nI_1, Nat.reduceAdd, Nat.reduceLT]
    refine ⟨fun h => absurd h (nle (by omega) (by omega)), fun _ => ?_⟩
    refine ev_seg rfl ?_
    simp only [TE, sxs, sx, ldI, ldA, stI, stA, inc, gtF, ptF, ldX, stX, ldR, ldL, stL, dp1, dp2, Tm, kS0, kS1, kS2, kS3, kS4, kS5, kS6, kS7, kS8, kS9, kS10, kS11, kS12, kS13, kS14, kS15, kS16, kS17, kS18, kS19, kS20, kS21, kS22, kS23, kS24, kS25, kS26, kS27, kS28, kS30, kS31, kS32, kS33, kS34, kS35, kS36, kS37, kS38, kS39, kS40, kS41, kS42, kS43, kS51, kS52, kS53, List.getElem?_cons_zero, List.getElem?_cons_succ, List.set_cons_zero, List.set_cons_succ, List.length_cons, List.length_nil, List.drop_succ_cons, List.drop_zero, List.cons_append, List.nil_append, Option.toList_some, Option.toList_none, cz, ci2, true_and, and_true, and_self, true_or, or_true, nI_1, Nat.reduceAdd, Nat.reduceLT]
    refine a5 Z ?_
    refine ev_seg rfl ?_
    simp only [TE, sxs, sx, ldI, ldA, stI, stA, inc, gtF, ptF, ldX, stX, ldR, ldL, stL, dp1, dp2, Tm, kS0, kS1, kS2, kS3, kS4, kS5, kS6, kS7, kS8, kS9, kS10, kS11, kS12, kS13, kS14, kS15, kS16, kS17, kS18, kS19, kS20, kS21, kS22, kS23, kS24, kS25, kS26, kS27, kS28, kS30, kS31, kS32, kS33, kS34, kS35, kS36, kS37, kS38, kS39, kS40, kS41, kS42, kS43, kS51, kS52, kS53, List.getElem?_cons_zero, List.getElem?_cons_succ, List.set_cons_zero, List.set_cons_succ, List.length_cons, List.length_nil, List.drop_succ_cons, List.drop_zero, List.cons_append, List.nil_append, Option.toList_some, Option.toList_none, cz, ci2, true_and, and_true, and_self, true_or, or_true, nI_1, Nat.reduceAdd, Nat.reduceLT]
    exact h1
end Srt
