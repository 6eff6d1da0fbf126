/-! the whole table of a group -/
section Drw
variable {sc : SC} {d : Nat} {g : Int32}
/-- teams with as many points -/
def alp (P : Nat → Int32) (a z : Nat) : Bool := decide (fa (fun _ => P a) (fun _ => P z) 1 = 1)
/-- the place of a team in its group; P: points, K: the marks that count when all of some tied are alike -/
def PT (S : Nat → Nat → Int32) (n : Nat) (K : Nat → Nat → Int32) (P : Nat → Int32) (a : Nat) : Nat := kap (fun z _ => P z) 1 (fun _ => true) n a + POS S n K 5 (alp P a) a
/-- the rule by which two teams are told apart -/
def RT (S : Nat → Nat → Int32) (n : Nat) (K : Nat → Nat → Int32) (P : Nat → Int32) (a b : Nat) : Nat := if fa (fun _ => P a) (fun _ => P b) 1 < 1 then 0 + fa (fun _ => P a) (fun _ => P b) 1 else RUL S n K 5 (alp P a) a b
theorem draw_runs {n : Nat} {S K : Nat → Nat → Int32} {P : Nat → Int32} {X0 : XT} {σ0 : Nat → Nat} (IH : StP sc d g n S K 5) (hn : n ≤ 5) (hG0 : GF X0 g n S K) (hinj0 : ∀ i j, i < n → j < n → σ0 i = σ0 j → i = j) (hC0 : ∀ z, z < n → ((fun _ => true : Nat → Bool) z = true ↔ ∃ i, 0 ≤ i ∧ i < n ∧ σ0 i = z)) :
    ∀ (q fr nx : Nat) (X : XT) (τ : Nat → Nat), nx + q = n + 1 → 0 ≤ fr → fr < nx → fr ≤ n → (nx = n + 1 → fr = n) → Fr [11, 12, 14] X0 X → OrdH X n τ → PS 0 n σ0 τ →
    (∀ i, fr ≤ i → i < n → ∀ c, c < 1 → mrow X (τ i) c = P (τ i)) →
    (∀ i j, 0 ≤ i → i < j → j < n → ¬ bet (fun _ => P (τ j)) (fun _ => P (τ i)) 1) →
    (∀ i, fr ≤ i → i < nx → i < n → fa (fun _ => P (τ fr)) (fun _ => P (τ i)) 1 = 1) →
    (∀ i j, 0 ≤ i → i < fr → fr ≤ j → j < n → ¬ fa (fun _ => P (τ i)) (fun _ => P (τ j)) 1 = 1) →
    (∀ i, 0 ≤ i → i < fr → i = 0 + PT S n K P (τ i)) →
    (∀ i j, 0 ≤ i → i < n → 0 ≤ j → j < n → i ≠ j → (i < fr ∨ j < fr) → RU X (τ i) (τ j) = nI (RT S n K P (τ i) (τ j))) →
    (∀ i j, fr ≤ i → i < n → fr ≤ j → j < n → i ≠ j → fa (fun _ => P (τ i)) (fun _ => P (τ j)) 1 < 1 → RU X (τ i) (τ j) = nI (0 + fa (fun _ => P (τ i)) (fun _ => P (τ j)) 1)) →
    ∃ (Z : XT) (υ : Nat → Nat), Ev sc (d + 11) 43 8 [vR 8 0 0, vR 2 0 g, vI (nI n), vI (nI fr), vI (nI nx)] [] X (.inl none) Z 0 ∧ Fr [11, 12, 14] X0 Z ∧ OrdH Z n υ ∧ PS 0 n σ0 υ ∧ (∀ i, 0 ≤ i → i < n → i = 0 + PT S n K P (υ i)) ∧
      (∀ i j, 0 ≤ i → i < n → 0 ≤ j → j < n → i ≠ j → RU Z (υ i) (υ j) = nI (RT S n K P (υ i) (υ j))) := by
  intro q
  induction q with
  | zero =>
    intro fr nx X τ hq hs hfn hfe hend hf hO hP hb hc hd hE hF hF2 hg
    have hfr : fr = n := hend (by omega)
    refine ⟨X, τ, ?_, hf, hO, hP, fun i a b => hF i a (by omega), fun i j a b c1 c2 c3 => hF2 i j a b c1 c2 c3 (by omega)⟩
    refine ev_seg rfl ?_
    simp only [TE, sxs, sx, ldI, ldA, stI, stA, inc, gtF, ptF, ldX, stX, ldR, ldL, stL, dp1, dp2, Tm, kS0, kS1, kS2, kS3, kS4, kS5, kS6, kS7, kS8, kS9, kS10, kS11, kS12, kS13, kS14, kS15, kS16, kS17, kS18, kS19, kS20, kS21, kS22, kS23, kS24, kS25, kS26, kS27, kS28, kS30, kS31, kS32, kS33, kS34, kS35, kS36, kS37, kS38, kS39, kS40, kS41, kS42, kS43, kS51, kS52, kS53, List.getElem?_cons_zero, List.getElem?_cons_succ, List.set_cons_zero, List.set_cons_succ, List.length_cons, List.length_nil, List.drop_succ_cons, List.drop_zero, List.cons_append, List.nil_append, Option.toList_some, Option.toList_none, cz, ci2, true_and, and_true, and_self, true_or, or_true, nI_1, Nat.reduceAdd, Nat.reduceLT]
    refine ⟨fun _ => ?_, fun h => absurd ?_ h⟩
    · refine ev_seg rfl ?_
      simp only [TE, sxs, sx, ldI, ldA, stI, stA, inc, gtF, ptF, ldX, stX, ldR, ldL, stL, dp1, dp2, Tm, kS0, kS1, kS2, kS3, kS4, kS5, kS6, kS7, kS8, kS9, kS10, kS11, kS12, kS13, kS14, kS15, kS16, kS17, kS18, kS19, kS20, kS21, kS22, kS23, kS24, kS25, kS26, kS27, kS28, kS30, kS31, kS32, kS33, kS34, kS35, kS36, kS37, kS38, kS39, kS40, kS41, kS42, kS43, kS51, kS52, kS53, List.getElem?_cons_zero, List.getElem?_cons_succ, List.set_cons_zero, List.set_cons_succ, List.length_cons, List.length_nil, List.drop_succ_cons, List.drop_zero, List.cons_append, List.nil_append, Option.toList_some, Option.toList_none, cz, ci2, true_and, and_true, and_self, true_or, or_true, nI_1, Nat.reduceAdd, Nat.reduceLT]
    · exact nI_lt (by omega) (by omega)
  | succ q ih =>
    intro fr nx X τ hq hs hfn hfe hend hf hO hP hb hc hd hE hF hF2 hg
    have hnx : nx ≤ n := by omega
    have hlt : ∀ i, i < n → τ i < n := fun i hi => (hO i hi).2
    have hinj := hP.2.2.2 n (Nat.le_refl n) hinj0
    have hC := PS_C hP hC0
    have hG := hG0.fr hf
    have hfe2 : fr < n := by omega
    -- keys that are alike
    have al_bet : ∀ {a a' b b' : Nat}, fa (fun _ => P a) (fun _ => P a') 1 = 1 → fa (fun _ => P b) (fun _ => P b') 1 = 1 → (bet (fun _ => P a) (fun _ => P b) 1 ↔ bet (fun _ => P a') (fun _ => P b') 1) := fun h1 h2 => bet_congr (fa_all.mp h1) (fa_all.mp h2)
    have al_fa : ∀ {a a' b b' : Nat}, fa (fun _ => P a) (fun _ => P a') 1 = 1 → fa (fun _ => P b) (fun _ => P b') 1 = 1 → fa (fun _ => P a) (fun _ => P b) 1 = fa (fun _ => P a') (fun _ => P b') 1 := fun h1 h2 => fa_congr (fa_all.mp h1) (fa_all.mp h2)
    have al_rf : ∀ a, fa (fun _ => P a) (fun _ => P a) 1 = 1 := fun a => fa_all.mpr (fun _ _ => rfl)
    have al_sy : ∀ {a b : Nat}, fa (fun _ => P a) (fun _ => P b) 1 = 1 → fa (fun _ => P b) (fun _ => P a) 1 = 1 := fun h => by rw [fa_comm]; exact h
    -- the run ends here, or goes on
    have hcase : (nx = n ∨ (nx < n ∧ fa (fun _ => P (τ fr)) (fun _ => P (τ nx)) 1 < 1)) ∨ (nx < n ∧ fa (fun _ => P (τ fr)) (fun _ => P (τ nx)) 1 = 1) := by
      rcases Nat.lt_or_ge nx n with w | w
      · have := fa_le (fun _ => P (τ fr)) (fun _ => P (τ nx)) 1
        rcases Nat.lt_or_ge (fa (fun _ => P (τ fr)) (fun _ => P (τ nx)) 1) 1 with w2 | w2
        · exact Or.inl (Or.inr ⟨w, w2⟩)
        · exact Or.inr ⟨w, by omega⟩
      · exact Or.inl (Or.inl (by omega))
    have hmk : ∀ i, fr ≤ i → i < n → fa (mrow X (τ fr)) (mrow X (τ i)) 1 = fa (fun _ => P (τ fr)) (fun _ => P (τ i)) 1 := fun i a b => fa_congr (hb fr (Nat.le_refl _) hfe2) (hb i a b)
    rcases hcase with hend2 | ⟨hnx2, hal⟩
    · -- settle the run
      have hrun : ∀ z, z < n → (alp P (τ fr) z = true ↔ ∃ i, fr ≤ i ∧ i < nx ∧ τ i = z) := by
        intro z hz
        unfold alp
        rw [decide_eq_true_eq]
        constructor
        · intro h2
          obtain ⟨i, a, b, rfl⟩ := (hC z hz).mp rfl
          have hi1 : fr ≤ i := by
            rcases Nat.lt_or_ge i fr with w | w
            · exact absurd (al_sy h2) (hE i fr a w (Nat.le_refl _) hfe2)
            · exact w
          refine ⟨i, hi1, ?_, rfl⟩
          rcases Nat.lt_or_ge i nx with w | w
          · exact w
          · exfalso
            rcases hend2 with h3 | ⟨h3, h4⟩
            · omega
            · have hb1 : bet (fun _ => P (τ fr)) (fun _ => P (τ nx)) 1 := (bet_tot (by omega)).resolve_right (hc fr nx hs hfn h3)
              by_cases hin : i = nx
              · subst hin; omega
              · have := hc nx i (by omega) (by omega) b
                rw [al_bet (al_sy h2) (al_rf _)] at this
                exact this hb1
        · rintro ⟨i, a, b, rfl⟩
          exact hd i a b (by omega)
      obtain ⟨Z1, υ, a1, a2, a3, a4, a5, a6, a7, a8⟩ := IH fr nx 0 (alp P (τ fr)) τ X (by omega) (by omega) (by omega) (by omega) hG hO hinj hrun
      -- places keep their keys
      have hkey : ∀ i, 0 ≤ i → i < n → fa (fun _ => P (υ i)) (fun _ => P (τ i)) 1 = 1 := by
        intro i a b
        by_cases hin : fr ≤ i ∧ i < nx
        · obtain ⟨j, b1, b2, b3⟩ := a4.2.1 i hin.1 hin.2
          rw [b3, al_fa (al_sy (hd j b1 b2 (by omega))) (al_sy (hd i hin.1 hin.2 b))]
          exact al_rf _
        · rw [a4.1 i (by omega)]
          exact al_rf _
      have hsame : ∀ i, (i < fr ∨ nx ≤ i) → υ i = τ i := a4.1
      have hrunk : ∀ i, fr ≤ i → i < nx → fa (fun _ => P (τ fr)) (fun _ => P (υ i)) 1 = 1 := by
        intro i a b
        obtain ⟨j, b1, b2, b3⟩ := a4.2.1 i a b
        rw [b3]
        exact hd j b1 b2 (by omega)
      have hdiff : ∀ i j, fr ≤ i → i < nx → nx ≤ j → j < n → ¬ fa (fun _ => P (τ i)) (fun _ => P (τ j)) 1 = 1 := by
        intro i j a b c1 c2 h
        have h9 : alp P (τ fr) (τ j) = true := by
          unfold alp
          rw [decide_eq_true_eq]
          rw [al_fa (hd i a b (by omega)) (al_rf _)]
          exact h
        obtain ⟨i', b1, b2, b3⟩ := (hrun _ (hlt j (by omega))).mp h9
        have := hinj i' j (by omega) (by omega) b3
        omega
      have hkp : fr = 0 + kap (fun z _ => P z) 1 (fun _ => true) n (τ fr) := by
        have h9 := kap_pos (K := fun z _ => P z) (m := 1) (C := fun _ => true) (fr := fr) (Nat.le_refl n) hlt hinj hC hs hfe2 (fun i a b => (bet_tot (hE i fr a b (Nat.le_refl _) hfe2)).resolve_right (hc i fr a b hfe2)) (fun i a b => by
          by_cases hi : i = fr
          · rw [hi]; exact bet_irr _ _
          · exact hc fr i hs (by omega) b)
        omega
      have halk : ∀ i, fr ≤ i → i < nx → ∀ z, z < n → alp P (υ i) z = alp P (τ fr) z := by
        intro i a b z _
        unfold alp
        rw [al_fa (al_sy (hrunk i a b)) (al_rf z)]
      have hυ : ∀ i, 0 ≤ i → i < n → ∃ i', 0 ≤ i' ∧ i' < n ∧ υ i = τ i' ∧ ((fr ≤ i ∧ i < nx ∧ fr ≤ i' ∧ i' < nx) ∨ i' = i) := by
        intro i a b
        by_cases hin : fr ≤ i ∧ i < nx
        · obtain ⟨j, b1, b2, b3⟩ := a4.2.1 i hin.1 hin.2
          exact ⟨j, by omega, by omega, b3, Or.inl ⟨hin.1, hin.2, b1, b2⟩⟩
        · exact ⟨i, a, b, hsame i (by omega), Or.inr rfl⟩
      have hPS2 : PS 0 n σ0 υ := hP.tr (a4.mo hs (by omega))
      have hinj2 := hPS2.2.2.2 n (Nat.le_refl n) hinj0
      obtain ⟨Z, ω, b1, b2, b3, b4, b5, b6⟩ := ih nx (nx + 1) Z1 υ (by omega) (by omega) (by omega) hnx (fun _ => by omega) (hf.tr a2) a3 hPS2
        (fun i p1 p2 c p3 => by
          rw [hsame i (by omega)]
          have hno : alp P (τ fr) (τ i) = false := by
            cases h9 : alp P (τ fr) (τ i) with
            | false => rfl
            | true =>
              obtain ⟨i', q1, q2, q3⟩ := (hrun _ (hlt i (by omega))).mp h9
              have := hinj i' i (by omega) (by omega) q3
              omega
          rw [a8 _ (hlt i (by omega)) hno]
          exact hb i (by omega) p2 c p3)
        (fun i j p1 p2 p3 => by
          rw [al_bet (hkey j (by omega) p3) (hkey i p1 (by omega))]
          exact hc i j p1 p2 p3)
        (fun i p1 p2 p3 => by
          rw [show i = nx by omega]
          exact al_rf _)
        (fun i j p1 p2 p3 p4 => by
          rw [al_fa (hkey i p1 (by omega)) (hkey j (by omega) p4)]
          by_cases hif : i < fr
          · exact hE i j p1 hif (by omega) p4
          · exact hdiff i j (by omega) p2 p3 p4)
        (fun i p1 p2 => by
          by_cases hif : i < fr
          · rw [hsame i (by omega)]
            exact hF i p1 hif
          · have h9 := a5 i (by omega) p2
            have e1 : PT S n K P (υ i) = kap (fun z _ => P z) 1 (fun _ => true) n (υ i) + POS S n K 5 (alp P (υ i)) (υ i) := rfl
            rw [e1, POS_congr 5 (halk i (by omega) p2) ((a3 i (by omega)).2), ← kap_eq (K := fun z _ => P z) (C := fun _ => true) (n := n) (hrunk i (by omega) p2)]
            omega)
        (fun i j p1 p2 p3 p4 p5 p6 => by
          have hRUL : ∀ {a b : Nat}, fa (fun _ => P a) (fun _ => P b) 1 < 1 → RT S n K P a b = 0 + fa (fun _ => P a) (fun _ => P b) 1 := fun h => if_pos h
          by_cases hboth : (fr ≤ i ∧ i < nx) ∧ (fr ≤ j ∧ j < nx)
          · rw [a6 i j hboth.1.1 hboth.1.2 hboth.2.1 hboth.2.2 p5]
            have e1 : RT S n K P (υ i) (υ j) = RUL S n K 5 (alp P (υ i)) (υ i) (υ j) := by
              have h3 : fa (fun _ => P (υ i)) (fun _ => P (υ j)) 1 = 1 := by
                rw [al_fa (al_sy (hrunk i hboth.1.1 hboth.1.2)) (al_sy (hrunk j hboth.2.1 hboth.2.2))]
                exact al_rf _
              show (if _ then _ else _) = _
              rw [if_neg (by omega)]
            rw [e1, RUL_congr 5 (halk i hboth.1.1 hboth.1.2)]
          · rw [a7 i j (by omega) (by omega) p5 (by omega)]
            obtain ⟨i', q1, q2, q3, q4⟩ := hυ i p1 p2
            obtain ⟨j', r1, r2, r3, r4⟩ := hυ j p3 p4
            rw [q3, r3]
            have hne : i' ≠ j' := by omega
            by_cases hold : i' < fr ∨ j' < fr
            · exact hF2 i' j' q1 q2 r1 r2 hne hold
            · have h3 : fa (fun _ => P (τ i')) (fun _ => P (τ j')) 1 < 1 := by
                have := fa_le (fun _ => P (τ i')) (fun _ => P (τ j')) 1
                have h4 : ¬ fa (fun _ => P (τ i')) (fun _ => P (τ j')) 1 = 1 := by
                  by_cases hi2 : i' < nx
                  · exact hdiff i' j' (by omega) hi2 (by omega) r2
                  · rw [fa_comm]
                    exact hdiff j' i' (by omega) (by omega) (by omega) q2
                omega
              rw [hg i' j' (by omega) q2 (by omega) r2 hne h3, hRUL h3])
        (fun i j p1 p2 p3 p4 p5 p6 => by
          rw [a7 i j (by omega) (by omega) p5 (by omega)]
          rw [hsame i (by omega), hsame j (by omega)] at p6 ⊢
          exact hg i j (by omega) p2 (by omega) p4 p5 p6)
      refine ⟨Z, ω, ?_, b2, b3, b4, b5, b6⟩
      have hin : Ev sc (d + 11) 43 10 [vR 8 0 0, vR 2 0 g, vI (nI n), vI (nI fr), vI (nI nx)] [vI 1] X (.inl none) Z 0 := by
        refine ev_seg rfl ?_
        simp only [TE, sxs, sx, ldI, ldA, stI, stA, inc, gtF, ptF, ldX, stX, ldR, ldL, stL, dp1, dp2, Tm, kS0, kS1, kS2, kS3, kS4, kS5, kS6, kS7, kS8, kS9, kS10, kS11, kS12, kS13, kS14, kS15, kS16, kS17, kS18, kS19, kS20, kS21, kS22, kS23, kS24, kS25, kS26, kS27, kS28, kS30, kS31, kS32, kS33, kS34, kS35, kS36, kS37, kS38, kS39, kS40, kS41, kS42, kS43, kS51, kS52, kS53, List.getElem?_cons_zero, List.getElem?_cons_succ, List.set_cons_zero, List.set_cons_succ, List.length_cons, List.length_nil, List.drop_succ_cons, List.drop_zero, List.cons_append, List.nil_append, Option.toList_some, Option.toList_none, cz, ci2, true_and, and_true, and_self, true_or, or_true, nI_1, Nat.reduceAdd, Nat.reduceLT]
        refine ⟨fun h => absurd h (by decide), fun _ => ?_⟩
        refine ev_seg rfl ?_
        simp only [TE, sxs, sx, ldI, ldA, stI, stA, inc, gtF, ptF, ldX, stX, ldR, ldL, stL, dp1, dp2, Tm, kS0, kS1, kS2, kS3, kS4, kS5, kS6, kS7, kS8, kS9, kS10, kS11, kS12, kS13, kS14, kS15, kS16, kS17, kS18, kS19, kS20, kS21, kS22, kS23, kS24, kS25, kS26, kS27, kS28, kS30, kS31, kS32, kS33, kS34, kS35, kS36, kS37, kS38, kS39, kS40, kS41, kS42, kS43, kS51, kS52, kS53, List.getElem?_cons_zero, List.getElem?_cons_succ, List.set_cons_zero, List.set_cons_succ, List.length_cons, List.length_nil, List.drop_succ_cons, List.drop_zero, List.cons_append, List.nil_append, Option.toList_some, Option.toList_none, cz, ci2, true_and, and_true, and_self, true_or, or_true, nI_1, Nat.reduceAdd, Nat.reduceLT]
        refine cu5 rfl rfl (by first | exact rfl | exact trivial) (a1) ?_
        refine ev_seg rfl ?_
        simp only [TE, sxs, sx, ldI, ldA, stI, stA, inc, gtF, ptF, ldX, stX, ldR, ldL, stL, dp1, dp2, Tm, kS0, kS1, kS2, kS3, kS4, kS5, kS6, kS7, kS8, kS9, kS10, kS11, kS12, kS13, kS14, kS15, kS16, kS17, kS18, kS19, kS20, kS21, kS22, kS23, kS24, kS25, kS26, kS27, kS28, kS30, kS31, kS32, kS33, kS34, kS35, kS36, kS37, kS38, kS39, kS40, kS41, kS42, kS43, kS51, kS52, kS53, List.getElem?_cons_zero, List.getElem?_cons_succ, List.set_cons_zero, List.set_cons_succ, List.length_cons, List.length_nil, List.drop_succ_cons, List.drop_zero, List.cons_append, List.nil_append, Option.toList_some, Option.toList_none, cz, ci2, true_and, and_true, and_self, true_or, or_true, nI_1, Nat.reduceAdd, Nat.reduceLT]
        refine ev_seg rfl ?_
        simp only [TE, sxs, sx, ldI, ldA, stI, stA, inc, gtF, ptF, ldX, stX, ldR, ldL, stL, dp1, dp2, Tm, kS0, kS1, kS2, kS3, kS4, kS5, kS6, kS7, kS8, kS9, kS10, kS11, kS12, kS13, kS14, kS15, kS16, kS17, kS18, kS19, kS20, kS21, kS22, kS23, kS24, kS25, kS26, kS27, kS28, kS30, kS31, kS32, kS33, kS34, kS35, kS36, kS37, kS38, kS39, kS40, kS41, kS42, kS43, kS51, kS52, kS53, List.getElem?_cons_zero, List.getElem?_cons_succ, List.set_cons_zero, List.set_cons_succ, List.length_cons, List.length_nil, List.drop_succ_cons, List.drop_zero, List.cons_append, List.nil_append, Option.toList_some, Option.toList_none, cz, ci2, true_and, and_true, and_self, true_or, or_true, nI_1, Nat.reduceAdd, Nat.reduceLT]
        exact b1
      refine ev_seg rfl ?_
      simp only [TE, sxs, sx, ldI, ldA, stI, stA, inc, gtF, ptF, ldX, stX, ldR, ldL, stL, dp1, dp2, Tm, kS0, kS1, kS2, kS3, kS4, kS5, kS6, kS7, kS8, kS9, kS10, kS11, kS12, kS13, kS14, kS15, kS16, kS17, kS18, kS19, kS20, kS21, kS22, kS23, kS24, kS25, kS26, kS27, kS28, kS30, kS31, kS32, kS33, kS34, kS35, kS36, kS37, kS38, kS39, kS40, kS41, kS42, kS43, kS51, kS52, kS53, List.getElem?_cons_zero, List.getElem?_cons_succ, List.set_cons_zero, List.set_cons_succ, List.length_cons, List.length_nil, List.drop_succ_cons, List.drop_zero, List.cons_append, List.nil_append, Option.toList_some, Option.toList_none, cz, ci2, true_and, and_true, and_self, true_or, or_true, nI_1, Nat.reduceAdd, Nat.reduceLT]
      refine ⟨fun h => absurd h (fun w => i_nlt (nleI hnx (by omega)) w), fun _ => ?_⟩
      refine ev_seg rfl ?_
      simp only [TE, sxs, sx, ldI, ldA, stI, stA, inc, gtF, ptF, ldX, stX, ldR, ldL, stL, dp1, dp2, Tm, kS0, kS1, kS2, kS3, kS4, kS5, kS6, kS7, kS8, kS9, kS10, kS11, kS12, kS13, kS14, kS15, kS16, kS17, kS18, kS19, kS20, kS21, kS22, kS23, kS24, kS25, kS26, kS27, kS28, kS30, kS31, kS32, kS33, kS34, kS35, kS36, kS37, kS38, kS39, kS40, kS41, kS42, kS43, kS51, kS52, kS53, List.getElem?_cons_zero, List.getElem?_cons_succ, List.set_cons_zero, List.set_cons_succ, List.length_cons, List.length_nil, List.drop_succ_cons, List.drop_zero, List.cons_append, List.nil_append, Option.toList_some, Option.toList_none, cz, ci2, true_and, and_true, and_self, true_or, or_true, nI_1, Nat.reduceAdd, Nat.reduceLT]
      rcases hend2 with h3 | ⟨h3, h4⟩
      · refine cv5 rfl rfl (by first | exact rfl | exact trivial) (Ev_d (d' := d + 10) (s_alikeE (d := 0) (Nat.le_refl n) hn (by omega) (by omega)) (by omega)) ?_
        exact hin
      · refine cv5 rfl rfl (by first | exact rfl | exact trivial) (Ev_d (d' := d + 10) (s_alikeI (d := 0) (Nat.le_refl n) hn (by decide) (by omega) h3 hO) (by omega)) ?_
        have h9 : fa (mrow X (τ fr)) (mrow X (τ nx)) 1 < 1 := by rw [hmk nx (by omega) h3]; exact h4
        rw [bI_t h9]
        exact hin
    · -- it goes on
      obtain ⟨Z, ω, b1, b2, b3, b4, b5, b6⟩ := ih fr (nx + 1) X τ (by omega) hs (by omega) hfe (fun w => by omega) hf hO hP hb hc (fun i p1 p2 p3 => by
        by_cases hi : i = nx
        · rw [hi]; exact hal
        · exact hd i p1 (by omega) p3) hE hF hF2 hg
      refine ⟨Z, ω, ?_, b2, b3, b4, b5, b6⟩
      refine ev_seg rfl ?_
      simp only [TE, sxs, sx, ldI, ldA, stI, stA, inc, gtF, ptF, ldX, stX, ldR, ldL, stL, dp1, dp2, Tm, kS0, kS1, kS2, kS3, kS4, kS5, kS6, kS7, kS8, kS9, kS10, kS11, kS12, kS13, kS14, kS15, kS16, kS17, kS18, kS19, kS20, kS21, kS22, kS23, kS24, kS25, kS26, kS27, kS28, kS30, kS31, kS32, kS33, kS34, kS35, kS36, kS37, kS38, kS39, kS40, kS41, kS42, kS43, kS51, kS52, kS53, List.getElem?_cons_zero, List.getElem?_cons_succ, List.set_cons_zero, List.set_cons_succ, List.length_cons, List.length_nil, List.drop_succ_cons, List.drop_zero, List.cons_append, List.nil_append, Option.toList_some, Option.toList_none, cz, ci2, true_and, and_true, and_self, true_or, or_true, nI_1, Nat.reduceAdd, Nat.reduceLT]
      refine ⟨fun h => absurd h (fun w => i_nlt (nleI hnx (by omega)) w), fun _ => ?_⟩
      refine ev_seg rfl ?_
      simp only [TE, sxs, sx, ldI, ldA, stI, stA, inc, gtF, ptF, ldX, stX, ldR, ldL, stL, dp1, dp2, Tm, kS0, kS1, kS2, kS3, kS4, kS5, kS6, kS7, kS8, kS9, kS10, kS11, kS12, kS13, kS14, kS15, kS16, kS17, kS18, kS19, kS20, kS21, kS22, kS23, kS24, kS25, kS26, kS27, kS28, kS30, kS31, kS32, kS33, kS34, kS35, kS36, kS37, kS38, kS39, kS40, kS41, kS42, kS43, kS51, kS52, kS53, List.getElem?_cons_zero, List.getElem?_cons_succ, List.set_cons_zero, List.set_cons_succ, List.length_cons, List.length_nil, List.drop_succ_cons, List.drop_zero, List.cons_append, List.nil_append, Option.toList_some, Option.toList_none, cz, ci2, true_and, and_true, and_self, true_or, or_true, nI_1, Nat.reduceAdd, Nat.reduceLT]
      refine cv5 rfl rfl (by first | exact rfl | exact trivial) (Ev_d (d' := d + 10) (s_alikeI (d := 0) (Nat.le_refl n) hn (by decide) (by omega) hnx2 hO) (by omega)) ?_
      have h9 : ¬ fa (mrow X (τ fr)) (mrow X (τ nx)) 1 < 1 := by rw [hmk nx (by omega) hnx2, hal]; decide
      rw [bI_f h9]
      refine ev_seg rfl ?_
      simp only [TE, sxs, sx, ldI, ldA, stI, stA, inc, gtF, ptF, ldX, stX, ldR, ldL, stL, dp1, dp2, Tm, kS0, kS1, kS2, kS3, kS4, kS5, kS6, kS7, kS8, kS9, kS10, kS11, kS12, kS13, kS14, kS15, kS16, kS17, kS18, kS19, kS20, kS21, kS22, kS23, kS24, kS25, kS26, kS27, kS28, kS30, kS31, kS32, kS33, kS34, kS35, kS36, kS37, kS38, kS39, kS40, kS41, kS42, kS43, kS51, kS52, kS53, List.getElem?_cons_zero, List.getElem?_cons_succ, List.set_cons_zero, List.set_cons_succ, List.length_cons, List.length_nil, List.drop_succ_cons, List.drop_zero, List.cons_append, List.nil_append, Option.toList_some, Option.toList_none, cz, ci2, true_and, and_true, and_self, true_or, or_true, nI_1, Nat.reduceAdd, Nat.reduceLT]
      refine ⟨fun _ => ?_, fun h => absurd trivial h⟩
      refine ev_seg rfl ?_
      simp only [TE, sxs, sx, ldI, ldA, stI, stA, inc, gtF, ptF, ldX, stX, ldR, ldL, stL, dp1, dp2, Tm, kS0, kS1, kS2, kS3, kS4, kS5, kS6, kS7, kS8, kS9, kS10, kS11, kS12, kS13, kS14, kS15, kS16, kS17, kS18, kS19, kS20, kS21, kS22, kS23, kS24, kS25, kS26, kS27, kS28, kS30, kS31, kS32, kS33, kS34, kS35, kS36, kS37, kS38, kS39, kS40, kS41, kS42, kS43, kS51, kS52, kS53, List.getElem?_cons_zero, List.getElem?_cons_succ, List.set_cons_zero, List.set_cons_succ, List.length_cons, List.length_nil, List.drop_succ_cons, List.drop_zero, List.cons_append, List.nil_append, Option.toList_some, Option.toList_none, cz, ci2, true_and, and_true, and_self, true_or, or_true, nI_1, Nat.reduceAdd, Nat.reduceLT]
      exact b1

theorem s_draw {n : Nat} {S K : Nat → Nat → Int32} {P : Nat → Int32} {X : XT} (hn : n ≤ 5) (hn1 : 1 ≤ n) (hG : GF X g n S K) (hK : ∀ a b, a < n → b < n → a ≠ b → ¬ fa (K a) (K b) 4 = 4) (hPz : ∀ z, z < n → P z = rsC S n (fun _ => true) pF z - X.1 5 0 g (nI z)) :
    ∃ (Z : XT) (τ : Nat → Nat), Ev sc (d + 11) 43 0 (ent 43 [vR 8 0 0, vR 2 0 g]) [] X (.inl none) Z 0 ∧ Fr [11, 12, 14] X Z ∧ OrdH Z n τ ∧ (∀ i j, i < n → j < n → τ i = τ j → i = j) ∧ (∀ i, i < n → i = PT S n K P (τ i)) ∧
      (∀ i j, i < n → j < n → i ≠ j → RU Z (τ i) (τ j) = nI (RT S n K P (τ i) (τ j))) := by
  have post : ∀ X1 : XT, Fr [11, 12, 14] X X1 → OrdH X1 n id → (∀ i, i < n → mrow X1 i 0 = P i) → ∃ (Z : XT) (τ : Nat → Nat), Ev sc (d + 11) 43 2 [vR 8 0 0, vR 2 0 g, vI (nI n), vI (nI n), av0] [] X1 (.inl none) Z 0 ∧ Fr [11, 12, 14] X Z ∧ OrdH Z n τ ∧ (∀ i j, i < n → j < n → τ i = τ j → i = j) ∧ (∀ i, i < n → i = PT S n K P (τ i)) ∧
      (∀ i j, i < n → j < n → i ≠ j → RU Z (τ i) (τ j) = nI (RT S n K P (τ i) (τ j))) := by
    intro X1 hf1 hO1 hm1
    obtain ⟨X2, τ, b1, b2, b3, b4, b5, b6⟩ := s_arrange (sc := sc) (d := d + 8) (X := X1) (s := 0) (e := n) (m := 1) (fr := 0) hn (by omega) (Nat.le_refl n) (by decide) (fun i j _ _ h => h) hO1
    have hG2 := (hG.fr hf1).fr (b2.mo (by decide))
    have hm2 : ∀ i, i < n → ∀ c, c < 1 → mrow X2 (τ i) c = P (τ i) := by
      intro i hi c hc
      rw [mrow_fr b2 (by decide), show c = 0 by omega]
      exact hm1 _ (b3 i hi).2
    have hm21 : ∀ i, i < n → ∀ c, c < 1 → mrow X1 (τ i) c = P (τ i) := by
      intro i hi c hc
      rw [show c = 0 by omega]
      exact hm1 _ (b3 i hi).2
    have hinj2 := b4.2.2.2 n (Nat.le_refl n) (fun i j _ _ h => h)
    have hC2 : ∀ z, z < n → ((fun _ => true : Nat → Bool) z = true ↔ ∃ i, 0 ≤ i ∧ i < n ∧ τ i = z) := PS_C (C := fun _ => true) b4 (fun z hz => ⟨fun _ => ⟨z, Nat.zero_le _, hz, rfl⟩, fun _ => rfl⟩)
    have hfa : ∀ i j, i < n → j < n → fa (mrow X1 (τ i)) (mrow X1 (τ j)) 1 = fa (fun _ => P (τ i)) (fun _ => P (τ j)) 1 := fun i j hi hj => fa_congr (hm21 i hi) (hm21 j hj)
    obtain ⟨Z, υ, g1, g2, g3, g4, g5, g6⟩ := draw_runs (σ0 := τ) (X0 := X2) (P := P) (s_settle (sc := sc) (d := d) hn hK 5) hn hG2 hinj2 hC2 n 0 1 X2 τ (by omega) (Nat.le_refl _) (by omega) (by omega) (fun w => by omega) (Fr.rf _ _) b3 (PS.rf _ _ _)
      (fun i _ hi => hm2 i hi)
      (fun i j _ p2 p3 w => b5 i j (Nat.zero_le _) p2 p3 ((bet_congr (hm21 j p3) (hm21 i (by omega))).mpr w))
      (fun i _ p2 p3 => by rw [show i = 0 by omega]; exact fa_all.mpr (fun _ _ => rfl))
      (fun i j _ p2 => absurd p2 (by omega)) (fun i _ p2 => absurd p2 (by omega)) (fun i j _ p2 _ p4 _ p6 => absurd p6 (by omega))
      (fun i j _ p2 _ p4 p5 p6 => by
        have h9 := hfa i j p2 p4
        rw [(b6 i j p2 p4 p5).1 ⟨Nat.zero_le _, p2, Nat.zero_le _, p4, by rw [h9]; exact p6⟩, h9])
    refine ⟨Z, υ, ?_, hf1.tr ((b2.mo (by decide)).tr g2), g3, g4.2.2.2 n (Nat.le_refl n) hinj2, fun i hi => ?_, fun i j hi hj hne => g6 i j (Nat.zero_le _) hi (Nat.zero_le _) hj hne⟩
    · refine ev_seg rfl ?_
      simp only [TE, sxs, sx, ldI, ldA, stI, stA, inc, gtF, ptF, ldX, stX, ldR, ldL, stL, dp1, dp2, Tm, kS0, kS1, kS2, kS3, kS4, kS5, kS6, kS7, kS8, kS9, kS10, kS11, kS12, kS13, kS14, kS15, kS16, kS17, kS18, kS19, kS20, kS21, kS22, kS23, kS24, kS25, kS26, kS27, kS28, kS30, kS31, kS32, kS33, kS34, kS35, kS36, kS37, kS38, kS39, kS40, kS41, kS42, kS43, kS51, kS52, kS53, List.getElem?_cons_zero, List.getElem?_cons_succ, List.set_cons_zero, List.set_cons_succ, List.length_cons, List.length_nil, List.drop_succ_cons, List.drop_zero, List.cons_append, List.nil_append, Option.toList_some, Option.toList_none, cz, ci2, true_and, and_true, and_self, true_or, or_true, nI_1, Nat.reduceAdd, Nat.reduceLT]
      refine ⟨fun _ => ?_, fun h => absurd (nleI (Nat.le_refl _) (by omega)) h⟩
      refine ev_seg rfl ?_
      simp only [TE, sxs, sx, ldI, ldA, stI, stA, inc, gtF, ptF, ldX, stX, ldR, ldL, stL, dp1, dp2, Tm, kS0, kS1, kS2, kS3, kS4, kS5, kS6, kS7, kS8, kS9, kS10, kS11, kS12, kS13, kS14, kS15, kS16, kS17, kS18, kS19, kS20, kS21, kS22, kS23, kS24, kS25, kS26, kS27, kS28, kS30, kS31, kS32, kS33, kS34, kS35, kS36, kS37, kS38, kS39, kS40, kS41, kS42, kS43, kS51, kS52, kS53, List.getElem?_cons_zero, List.getElem?_cons_succ, List.set_cons_zero, List.set_cons_succ, List.length_cons, List.length_nil, List.drop_succ_cons, List.drop_zero, List.cons_append, List.nil_append, Option.toList_some, Option.toList_none, cz, ci2, true_and, and_true, and_self, true_or, or_true, nI_1, Nat.reduceAdd, Nat.reduceLT]
      refine cu5 rfl rfl (by first | exact rfl | exact trivial) (b1) ?_
      refine ev_seg rfl ?_
      simp only [TE, sxs, sx, ldI, ldA, stI, stA, inc, gtF, ptF, ldX, stX, ldR, ldL, stL, dp1, dp2, Tm, kS0, kS1, kS2, kS3, kS4, kS5, kS6, kS7, kS8, kS9, kS10, kS11, kS12, kS13, kS14, kS15, kS16, kS17, kS18, kS19, kS20, kS21, kS22, kS23, kS24, kS25, kS26, kS27, kS28, kS30, kS31, kS32, kS33, kS34, kS35, kS36, kS37, kS38, kS39, kS40, kS41, kS42, kS43, kS51, kS52, kS53, List.getElem?_cons_zero, List.getElem?_cons_succ, List.set_cons_zero, List.set_cons_succ, List.length_cons, List.length_nil, List.drop_succ_cons, List.drop_zero, List.cons_append, List.nil_append, Option.toList_some, Option.toList_none, cz, ci2, true_and, and_true, and_self, true_or, or_true, nI_1, Nat.reduceAdd, Nat.reduceLT]
      exact g1
    · have := g5 i (Nat.zero_le _) hi
      omega
  have loop : ∀ p, p ≤ n → ∀ X1 : XT, Fr [11, 12, 14] X X1 → (∀ i, i < p → X1.1 12 0 0 (nI i) = nI i) → (∀ i, i < p → mrow X1 i 0 = P i) → ∃ (Z : XT) (τ : Nat → Nat), Ev sc (d + 11) 43 2 [vR 8 0 0, vR 2 0 g, vI (nI n), vI (nI p), av0] [] X1 (.inl none) Z 0 ∧ Fr [11, 12, 14] X Z ∧ OrdH Z n τ ∧ (∀ i j, i < n → j < n → τ i = τ j → i = j) ∧ (∀ i, i < n → i = PT S n K P (τ i)) ∧
      (∀ i j, i < n → j < n → i ≠ j → RU Z (τ i) (τ j) = nI (RT S n K P (τ i) (τ j))) := by
    apply loop_up
    · intro X1 hf h1 h2
      exact post X1 hf (fun i hi => ⟨h1 i hi, hi⟩) h2
    · intro p hp ih X1 hf h1 h2
      have v1 : vp_in (nI p) 5 := vpn (by omega) (by decide)
      have c0 : vp_in 0 4 := vpn (j := 0) (by decide) (by decide)
      generalize hX2 : ((xs X1.1 12 0 0 (nI p) (nI p), X1.2) : XT) = X2
      have f2 : Fr [11, 12, 14] X1 X2 := by rw [← hX2]; exact Fr.xs _ _ _ _ _ (by decide)
      have f2' : Fr [12] X1 X2 := by rw [← hX2]; exact Fr.xs _ _ _ _ _ (by decide)
      have rN : X2.1 2 0 g 5 = nI n := by rw [f2.at 2 (by decide), hf.at 2 (by decide)]; exact hG.1
      generalize hX3 : ((xs X2.1 11 0 (nI p) 0 (rowSum X2 g (nI p) (evy n) pF n - X2.1 5 0 g (nI p)), X2.2) : XT) = X3
      have f3 : Fr [11, 12, 14] X2 X3 := by rw [← hX3]; exact Fr.xs _ _ _ _ _ (by decide)
      have f3' : Fr [11] X2 X3 := by rw [← hX3]; exact Fr.xs _ _ _ _ _ (by decide)
      have hv : rowSum X2 g (nI p) (evy n) pF n - X2.1 5 0 g (nI p) = P p := by
        rw [rowSum_all hn, hPz p hp, scC_fr (hf.tr f2) (by decide), (hf.tr f2).at 5 (by decide), hG.2.1]
      obtain ⟨Z, τ, a1, a2⟩ := ih X3 ((hf.tr f2).tr f3) (fun i hi => by
        rw [f3'.at 12 (by decide), ← hX2]
        show xs X1.1 12 0 0 (nI p) (nI p) 12 0 0 (nI i) = nI i
        by_cases hip : i = p
        · rw [hip, xs_self]
        · rw [xs_nj _ _ _ _ _ (fun q => hip (nI_inj (by omega) (by omega) q))]
          exact h1 i (by omega)) (fun i hi => by
        rw [← hX3, hv]
        by_cases hip : i = p
        · rw [hip]
          exact xs_self _ _ _ _ _ _
        · rw [mrow_xn (by omega) (by omega) hip, mrow_fr f2' (by decide)]
          exact h2 i (by omega))
      refine ⟨Z, τ, ?_, a2⟩
      refine ev_seg rfl ?_
      simp only [TE, sxs, sx, ldI, ldA, stI, stA, inc, gtF, ptF, ldX, stX, ldR, ldL, stL, dp1, dp2, Tm, kS0, kS1, kS2, kS3, kS4, kS5, kS6, kS7, kS8, kS9, kS10, kS11, kS12, kS13, kS14, kS15, kS16, kS17, kS18, kS19, kS20, kS21, kS22, kS23, kS24, kS25, kS26, kS27, kS28, kS30, kS31, kS32, kS33, kS34, kS35, kS36, kS37, kS38, kS39, kS40, kS41, kS42, kS43, kS51, kS52, kS53, List.getElem?_cons_zero, List.getElem?_cons_succ, List.set_cons_zero, List.set_cons_succ, List.length_cons, List.length_nil, List.drop_succ_cons, List.drop_zero, List.cons_append, List.nil_append, Option.toList_some, Option.toList_none, cz, ci2, true_and, and_true, and_self, true_or, or_true, nI_1, Nat.reduceAdd, Nat.reduceLT]
      refine ⟨fun h => absurd h (nle hp (by omega)), fun _ => ?_⟩
      refine ev_seg rfl ?_
      simp only [TE, sxs, sx, ldI, ldA, stI, stA, inc, gtF, ptF, ldX, stX, ldR, ldL, stL, dp1, dp2, Tm, kS0, kS1, kS2, kS3, kS4, kS5, kS6, kS7, kS8, kS9, kS10, kS11, kS12, kS13, kS14, kS15, kS16, kS17, kS18, kS19, kS20, kS21, kS22, kS23, kS24, kS25, kS26, kS27, kS28, kS30, kS31, kS32, kS33, kS34, kS35, kS36, kS37, kS38, kS39, kS40, kS41, kS42, kS43, kS51, kS52, kS53, List.getElem?_cons_zero, List.getElem?_cons_succ, List.set_cons_zero, List.set_cons_succ, List.length_cons, List.length_nil, List.drop_succ_cons, List.drop_zero, List.cons_append, List.nil_append, Option.toList_some, Option.toList_none, cz, ci2, true_and, and_true, and_self, true_or, or_true, nI_1, Nat.reduceAdd, Nat.reduceLT]
      rw [hX2]
      refine ⟨(by first | assumption | (and_intros <;> first | assumption | trivial | decide)), cv2 rfl rfl (by first | exact rfl | exact trivial) (s_pointsOf rN hn v1) ?_⟩
      refine ev_seg rfl ?_
      simp only [TE, sxs, sx, ldI, ldA, stI, stA, inc, gtF, ptF, ldX, stX, ldR, ldL, stL, dp1, dp2, Tm, kS0, kS1, kS2, kS3, kS4, kS5, kS6, kS7, kS8, kS9, kS10, kS11, kS12, kS13, kS14, kS15, kS16, kS17, kS18, kS19, kS20, kS21, kS22, kS23, kS24, kS25, kS26, kS27, kS28, kS30, kS31, kS32, kS33, kS34, kS35, kS36, kS37, kS38, kS39, kS40, kS41, kS42, kS43, kS51, kS52, kS53, List.getElem?_cons_zero, List.getElem?_cons_succ, List.set_cons_zero, List.set_cons_succ, List.length_cons, List.length_nil, List.drop_succ_cons, List.drop_zero, List.cons_append, List.nil_append, Option.toList_some, Option.toList_none, cz, ci2, true_and, and_true, and_self, true_or, or_true, nI_1, Nat.reduceAdd, Nat.reduceLT]
      refine cu4 rfl rfl (by first | exact rfl | exact trivial) (s_put9 v1 c0) ?_
      rw [hX3]
      refine ev_seg rfl ?_
      simp only [TE, sxs, sx, ldI, ldA, stI, stA, inc, gtF, ptF, ldX, stX, ldR, ldL, stL, dp1, dp2, Tm, kS0, kS1, kS2, kS3, kS4, kS5, kS6, kS7, kS8, kS9, kS10, kS11, kS12, kS13, kS14, kS15, kS16, kS17, kS18, kS19, kS20, kS21, kS22, kS23, kS24, kS25, kS26, kS27, kS28, kS30, kS31, kS32, kS33, kS34, kS35, kS36, kS37, kS38, kS39, kS40, kS41, kS42, kS43, kS51, kS52, kS53, List.getElem?_cons_zero, List.getElem?_cons_succ, List.set_cons_zero, List.set_cons_succ, List.length_cons, List.length_nil, List.drop_succ_cons, List.drop_zero, List.cons_append, List.nil_append, Option.toList_some, Option.toList_none, cz, ci2, true_and, and_true, and_self, true_or, or_true, nI_1, Nat.reduceAdd, Nat.reduceLT]
      exact a1
  obtain ⟨Z, τ, a1, a2⟩ := loop 0 (Nat.zero_le _) X (Fr.rf _ _) (fun i hi => absurd hi (by omega)) (fun i hi => absurd hi (by omega))
  refine ⟨Z, τ, ?_, a2⟩
  rw [en43]
  refine ev_seg rfl ?_
  simp only [TE, sxs, sx, ldI, ldA, stI, stA, inc, gtF, ptF, ldX, stX, ldR, ldL, stL, dp1, dp2, Tm, kS0, kS1, kS2, kS3, kS4, kS5, kS6, kS7, kS8, kS9, kS10, kS11, kS12, kS13, kS14, kS15, kS16, kS17, kS18, kS19, kS20, kS21, kS22, kS23, kS24, kS25, kS26, kS27, kS28, kS30, kS31, kS32, kS33, kS34, kS35, kS36, kS37, kS38, kS39, kS40, kS41, kS42, kS43, kS51, kS52, kS53, List.getElem?_cons_zero, List.getElem?_cons_succ, List.set_cons_zero, List.set_cons_succ, List.length_cons, List.length_nil, List.drop_succ_cons, List.drop_zero, List.cons_append, List.nil_append, Option.toList_some, Option.toList_none, cz, ci2, true_and, and_true, and_self, true_or, or_true, nI_1, Nat.reduceAdd, Nat.reduceLT]
  refine cv1 rfl rfl (by first | exact rfl | exact trivial) (s_size) ?_
  rw [hG.1]
  refine ev_seg rfl ?_
  simp only [TE, sxs, sx, ldI, ldA, stI, stA, inc, gtF, ptF, ldX, stX, ldR, ldL, stL, dp1, dp2, Tm, kS0, kS1, kS2, kS3, kS4, kS5, kS6, kS7, kS8, kS9, kS10, kS11, kS12, kS13, kS14, kS15, kS16, kS17, kS18, kS19, kS20, kS21, kS22, kS23, kS24, kS25, kS26, kS27, kS28, kS30, kS31, kS32, kS33, kS34, kS35, kS36, kS37, kS38, kS39, kS40, kS41, kS42, kS43, kS51, kS52, kS53, List.getElem?_cons_zero, List.getElem?_cons_succ, List.set_cons_zero, List.set_cons_succ, List.length_cons, List.length_nil, List.drop_succ_cons, List.drop_zero, List.cons_append, List.nil_append, Option.toList_some, Option.toList_none, cz, ci2, true_and, and_true, and_self, true_or, or_true, nI_1, Nat.reduceAdd, Nat.reduceLT]
  exact a1
variable {X : XT}
theorem s_seatAt {p : Int32} (hp : vp_in p 5) : Ev sc d 44 0 (ent 44 [vR 8 0 0, vI p]) [] X (.inl (some (.inl (X.1 12 0 0 p)))) X 0 := by
  rw [en44]
  refine ev_seg rfl ?_
  simp only [TE, sxs, sx, ldI, ldA, stI, stA, inc, gtF, ptF, ldX, stX, ldR, ldL, stL, dp1, dp2, Tm, kS0, kS1, kS2, kS3, kS4, kS5, kS6, kS7, kS8, kS9, kS10, kS11, kS12, kS13, kS14, kS15, kS16, kS17, kS18, kS19, kS20, kS21, kS22, kS23, kS24, kS25, kS26, kS27, kS28, kS30, kS31, kS32, kS33, kS34, kS35, kS36, kS37, kS38, kS39, kS40, kS41, kS42, kS43, kS51, kS52, kS53, List.getElem?_cons_zero, List.getElem?_cons_succ, List.set_cons_zero, List.set_cons_succ, List.length_cons, List.length_nil, List.drop_succ_cons, List.drop_zero, List.cons_append, List.nil_append, Option.toList_some, Option.toList_none, cz, ci2, true_and, and_true, and_self, true_or, or_true, nI_1, Nat.reduceAdd, Nat.reduceLT]
  exact hp
theorem s_ruleBetween {a b : Int32} (ha : vp_in a 5) (hb : vp_in b 5) : Ev sc d 46 0 (ent 46 [vR 8 0 0, vI a, vI b]) [] X (.inl (some (.inl (X.1 14 0 a b)))) X 0 := by
  rw [en46]
  refine ev_seg rfl ?_
  simp only [TE, sxs, sx, ldI, ldA, stI, stA, inc, gtF, ptF, ldX, stX, ldR, ldL, stL, dp1, dp2, Tm, kS0, kS1, kS2, kS3, kS4, kS5, kS6, kS7, kS8, kS9, kS10, kS11, kS12, kS13, kS14, kS15, kS16, kS17, kS18, kS19, kS20, kS21, kS22, kS23, kS24, kS25, kS26, kS27, kS28, kS30, kS31, kS32, kS33, kS34, kS35, kS36, kS37, kS38, kS39, kS40, kS41, kS42, kS43, kS51, kS52, kS53, List.getElem?_cons_zero, List.getElem?_cons_succ, List.set_cons_zero, List.set_cons_succ, List.length_cons, List.length_nil, List.drop_succ_cons, List.drop_zero, List.cons_append, List.nil_append, Option.toList_some, Option.toList_none, cz, ci2, true_and, and_true, and_self, true_or, or_true, nI_1, Nat.reduceAdd, Nat.reduceLT]
  refine ⟨(by first | assumption | (and_intros <;> first | assumption | trivial | decide)), ?_⟩
  trivial
/-- the place of a seat, when an order holds it -/
theorem s_placeOf {n : Nat} {σ : Nat → Nat} (hn : n ≤ 5) (hO : OrdH X n σ) (hinj : ∀ i j, i < n → j < n → σ i = σ j → i = j) {p : Nat} (hp : p < n) : Ev sc d 45 0 (ent 45 [vR 8 0 0, vI (nI (σ p))]) [] X (.inl (some (.inl (nI p)))) X 0 := by
  have loop : ∀ q, q ≤ p → Ev sc d 45 1 [vR 8 0 0, vI (nI (σ p)), vI (nI q)] [] X (.inl (some (.inl (nI p)))) X 0 := by
    apply loop_up
    · have hv : vp_in (nI p) 5 := vpn (by omega) (by decide)
      refine ev_seg rfl ?_
      simp only [TE, sxs, sx, ldI, ldA, stI, stA, inc, gtF, ptF, ldX, stX, ldR, ldL, stL, dp1, dp2, Tm, kS0, kS1, kS2, kS3, kS4, kS5, kS6, kS7, kS8, kS9, kS10, kS11, kS12, kS13, kS14, kS15, kS16, kS17, kS18, kS19, kS20, kS21, kS22, kS23, kS24, kS25, kS26, kS27, kS28, kS30, kS31, kS32, kS33, kS34, kS35, kS36, kS37, kS38, kS39, kS40, kS41, kS42, kS43, kS51, kS52, kS53, List.getElem?_cons_zero, List.getElem?_cons_succ, List.set_cons_zero, List.set_cons_succ, List.length_cons, List.length_nil, List.drop_succ_cons, List.drop_zero, List.cons_append, List.nil_append, Option.toList_some, Option.toList_none, cz, ci2, true_and, and_true, and_self, true_or, or_true, nI_1, Nat.reduceAdd, Nat.reduceLT]
      refine ⟨fun _ => ?_, fun h => ?_⟩
      · refine ev_seg rfl ?_
        simp only [TE, sxs, sx, ldI, ldA, stI, stA, inc, gtF, ptF, ldX, stX, ldR, ldL, stL, dp1, dp2, Tm, kS0, kS1, kS2, kS3, kS4, kS5, kS6, kS7, kS8, kS9, kS10, kS11, kS12, kS13, kS14, kS15, kS16, kS17, kS18, kS19, kS20, kS21, kS22, kS23, kS24, kS25, kS26, kS27, kS28, kS30, kS31, kS32, kS33, kS34, kS35, kS36, kS37, kS38, kS39, kS40, kS41, kS42, kS43, kS51, kS52, kS53, List.getElem?_cons_zero, List.getElem?_cons_succ, List.set_cons_zero, List.set_cons_succ, List.length_cons, List.length_nil, List.drop_succ_cons, List.drop_zero, List.cons_append, List.nil_append, Option.toList_some, Option.toList_none, cz, ci2, true_and, and_true, and_self, true_or, or_true, nI_1, Nat.reduceAdd, Nat.reduceLT]
      · refine ev_seg rfl ?_
        simp only [TE, sxs, sx, ldI, ldA, stI, stA, inc, gtF, ptF, ldX, stX, ldR, ldL, stL, dp1, dp2, Tm, kS0, kS1, kS2, kS3, kS4, kS5, kS6, kS7, kS8, kS9, kS10, kS11, kS12, kS13, kS14, kS15, kS16, kS17, kS18, kS19, kS20, kS21, kS22, kS23, kS24, kS25, kS26, kS27, kS28, kS30, kS31, kS32, kS33, kS34, kS35, kS36, kS37, kS38, kS39, kS40, kS41, kS42, kS43, kS51, kS52, kS53, List.getElem?_cons_zero, List.getElem?_cons_succ, List.set_cons_zero, List.set_cons_succ, List.length_cons, List.length_nil, List.drop_succ_cons, List.drop_zero, List.cons_append, List.nil_append, Option.toList_some, Option.toList_none, cz, ci2, true_and, and_true, and_self, true_or, or_true, nI_1, Nat.reduceAdd, Nat.reduceLT, (hO p hp).1]
        refine ⟨(by first | assumption | (and_intros <;> first | assumption | trivial | decide)), fun _ => ?_, fun h => absurd trivial h⟩
        refine ev_seg rfl ?_
        simp only [TE, sxs, sx, ldI, ldA, stI, stA, inc, gtF, ptF, ldX, stX, ldR, ldL, stL, dp1, dp2, Tm, kS0, kS1, kS2, kS3, kS4, kS5, kS6, kS7, kS8, kS9, kS10, kS11, kS12, kS13, kS14, kS15, kS16, kS17, kS18, kS19, kS20, kS21, kS22, kS23, kS24, kS25, kS26, kS27, kS28, kS30, kS31, kS32, kS33, kS34, kS35, kS36, kS37, kS38, kS39, kS40, kS41, kS42, kS43, kS51, kS52, kS53, List.getElem?_cons_zero, List.getElem?_cons_succ, List.set_cons_zero, List.set_cons_succ, List.length_cons, List.length_nil, List.drop_succ_cons, List.drop_zero, List.cons_append, List.nil_append, Option.toList_some, Option.toList_none, cz, ci2, true_and, and_true, and_self, true_or, or_true, nI_1, Nat.reduceAdd, Nat.reduceLT]
    · intro q hq ih
      have hv : vp_in (nI q) 5 := vpn (by omega) (by decide)
      refine ev_seg rfl ?_
      simp only [TE, sxs, sx, ldI, ldA, stI, stA, inc, gtF, ptF, ldX, stX, ldR, ldL, stL, dp1, dp2, Tm, kS0, kS1, kS2, kS3, kS4, kS5, kS6, kS7, kS8, kS9, kS10, kS11, kS12, kS13, kS14, kS15, kS16, kS17, kS18, kS19, kS20, kS21, kS22, kS23, kS24, kS25, kS26, kS27, kS28, kS30, kS31, kS32, kS33, kS34, kS35, kS36, kS37, kS38, kS39, kS40, kS41, kS42, kS43, kS51, kS52, kS53, List.getElem?_cons_zero, List.getElem?_cons_succ, List.set_cons_zero, List.set_cons_succ, List.length_cons, List.length_nil, List.drop_succ_cons, List.drop_zero, List.cons_append, List.nil_append, Option.toList_some, Option.toList_none, cz, ci2, true_and, and_true, and_self, true_or, or_true, nI_1, Nat.reduceAdd, Nat.reduceLT]
      refine ⟨fun h => absurd h (nle (by omega : q < 4) (by decide)), fun _ => ?_⟩
      refine ev_seg rfl ?_
      simp only [TE, sxs, sx, ldI, ldA, stI, stA, inc, gtF, ptF, ldX, stX, ldR, ldL, stL, dp1, dp2, Tm, kS0, kS1, kS2, kS3, kS4, kS5, kS6, kS7, kS8, kS9, kS10, kS11, kS12, kS13, kS14, kS15, kS16, kS17, kS18, kS19, kS20, kS21, kS22, kS23, kS24, kS25, kS26, kS27, kS28, kS30, kS31, kS32, kS33, kS34, kS35, kS36, kS37, kS38, kS39, kS40, kS41, kS42, kS43, kS51, kS52, kS53, List.getElem?_cons_zero, List.getElem?_cons_succ, List.set_cons_zero, List.set_cons_succ, List.length_cons, List.length_nil, List.drop_succ_cons, List.drop_zero, List.cons_append, List.nil_append, Option.toList_some, Option.toList_none, cz, ci2, true_and, and_true, and_self, true_or, or_true, nI_1, Nat.reduceAdd, Nat.reduceLT, (hO q (by omega)).1]
      refine ⟨(by first | assumption | (and_intros <;> first | assumption | trivial | decide)), fun h => absurd (hinj q p (by omega) hp (nI_inj (by have := (hO q (by omega)).2; omega) (by have := (hO p hp).2; omega) h)) (by omega), fun _ => ?_⟩
      refine ev_seg rfl ?_
      simp only [TE, sxs, sx, ldI, ldA, stI, stA, inc, gtF, ptF, ldX, stX, ldR, ldL, stL, dp1, dp2, Tm, kS0, kS1, kS2, kS3, kS4, kS5, kS6, kS7, kS8, kS9, kS10, kS11, kS12, kS13, kS14, kS15, kS16, kS17, kS18, kS19, kS20, kS21, kS22, kS23, kS24, kS25, kS26, kS27, kS28, kS30, kS31, kS32, kS33, kS34, kS35, kS36, kS37, kS38, kS39, kS40, kS41, kS42, kS43, kS51, kS52, kS53, List.getElem?_cons_zero, List.getElem?_cons_succ, List.set_cons_zero, List.set_cons_succ, List.length_cons, List.length_nil, List.drop_succ_cons, List.drop_zero, List.cons_append, List.nil_append, Option.toList_some, Option.toList_none, cz, ci2, true_and, and_true, and_self, true_or, or_true, nI_1, Nat.reduceAdd, Nat.reduceLT]
      exact ih
  rw [en45]
  refine ev_seg rfl ?_
  simp only [TE, sxs, sx, ldI, ldA, stI, stA, inc, gtF, ptF, ldX, stX, ldR, ldL, stL, dp1, dp2, Tm, kS0, kS1, kS2, kS3, kS4, kS5, kS6, kS7, kS8, kS9, kS10, kS11, kS12, kS13, kS14, kS15, kS16, kS17, kS18, kS19, kS20, kS21, kS22, kS23, kS24, kS25, kS26, kS27, kS28, kS30, kS31, kS32, kS33, kS34, kS35, kS36, kS37, kS38, kS39, kS40, kS41, kS42, kS43, kS51, kS52, kS53, List.getElem?_cons_zero, List.getElem?_cons_succ, List.set_cons_zero, List.set_cons_succ, List.length_cons, List.length_nil, List.drop_succ_cons, List.drop_zero, List.cons_append, List.nil_append, Option.toList_some, Option.toList_none, cz, ci2, true_and, and_true, and_self, true_or, or_true, nI_1, Nat.reduceAdd, Nat.reduceLT]
  exact loop 0 (Nat.zero_le _)
end Drw
