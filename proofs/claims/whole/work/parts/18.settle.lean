/-! settling tied teams -/
section Stl
variable {sc : SC} {d : Nat} {g : Int32}
theorem kap_pos {K : Nat → Nat → Int32} {m s e fr n : Nat} {C : Nat → Bool} {σ : Nat → Nat} (he : e ≤ n) (hlt : ∀ i, i < n → σ i < n) (hinj : ∀ i j, i < n → j < n → σ i = σ j → i = j) (hC : ∀ z, z < n → (C z = true ↔ ∃ i, s ≤ i ∧ i < e ∧ σ i = z)) (hs : s ≤ fr) (hf : fr < e)
    (h1 : ∀ i, s ≤ i → i < fr → bet (K (σ i)) (K (σ fr)) m) (h2 : ∀ i, fr ≤ i → i < e → ¬ bet (K (σ i)) (K (σ fr)) m) : kap K m C n (σ fr) = fr - s := by
  unfold kap
  rw [← ct_perm (p := fun z => C z && betB (K z) (K (σ fr)) m) hlt hinj]
  have e1 : ct (fun i => C (σ i) && betB (K (σ i)) (K (σ fr)) m) n = ct (fun i => decide (s ≤ i) && decide (i < fr)) n := by
    apply ct_congr
    intro i hi
    by_cases hin : s ≤ i ∧ i < e
    · have hc : C (σ i) = true := (hC _ (hlt i hi)).mpr ⟨i, hin.1, hin.2, rfl⟩
      rw [hc, Bool.true_and]
      by_cases hif : i < fr
      · rw [betB_iff.mpr (h1 i hin.1 hif)]
        simp [hin.1, hif]
      · rw [betB_no (h2 i (by omega) hin.2)]
        simp [hif]
    · have hc : C (σ i) = false := by
        cases hc : C (σ i) with
        | false => rfl
        | true =>
          obtain ⟨j, a, b, c⟩ := (hC _ (hlt i hi)).mp hc
          have := hinj j i (by omega) hi c
          omega
      rw [hc, Bool.false_and]
      have : ¬ (s ≤ i ∧ i < fr) := by omega
      simp
      omega
  rw [e1, ct_rng hs (by omega)]
def GF (X : XT) (g : Int32) (n : Nat) (S : Nat → Nat → Int32) (K : Nat → Nat → Int32) : Prop := X.1 2 0 g 5 = nI n ∧ scC X g = S ∧ K4 X g n = K
theorem GF.fr {X X' : XT} {g : Int32} {n : Nat} {S K : Nat → Nat → Int32} (h : GF X g n S K) (hf : Fr [11, 12, 14] X X') : GF X' g n S K := ⟨by rw [hf.at 2 (by decide)]; exact h.1, by rw [scC_fr hf (by decide)]; exact h.2.1, by rw [K4_fr hf (by decide) (by decide) (by decide) (by decide)]; exact h.2.2⟩
theorem mrow_fr {K : List Nat} {X X' : XT} (h : Fr K X X') (hk : 11 ∉ K) (z : Nat) : mrow X' z = mrow X z := by
  funext c
  exact h.at 11 hk _ _ _
/-- what settling a stretch gives -/
def StP (sc : SC) (d : Nat) (g : Int32) (n : Nat) (S K : Nat → Nat → Int32) (f : Nat) : Prop := ∀ (s e dp : Nat) (C : Nat → Bool) (σ : Nat → Nat) (X : XT), s ≤ e → e ≤ n → e - s ≤ f → dp + (e - s) ≤ 5 → GF X g n S K → OrdH X n σ → (∀ i j, i < n → j < n → σ i = σ j → i = j) → (∀ z, z < n → (C z = true ↔ ∃ i, s ≤ i ∧ i < e ∧ σ i = z)) →
  ∃ (Z : XT) (τ : Nat → Nat), Ev sc (d + 5 + f) 48 0 (ent 48 [vR 8 0 0, vR 2 0 g, vI (nI s), vI (nI e), vI (nI dp)]) [] X (.inl none) Z 0 ∧ Fr [11, 12, 14] X Z ∧ OrdH Z n τ ∧ PS s e σ τ ∧ (∀ i, s ≤ i → i < e → i = s + POS S n K f C (τ i)) ∧
    (∀ i j, s ≤ i → i < e → s ≤ j → j < e → i ≠ j → RU Z (τ i) (τ j) = nI (RUL S n K f C (τ i) (τ j))) ∧ (∀ i j, i < n → j < n → i ≠ j → ¬ (s ≤ i ∧ i < e ∧ s ≤ j ∧ j < e) → RU Z (τ i) (τ j) = RU X (τ i) (τ j)) ∧ (∀ z, z < n → C z = false → mrow Z z = mrow X z)
theorem PS_C {s e n : Nat} {σ τ : Nat → Nat} {C : Nat → Bool} (h : PS s e σ τ) (hC : ∀ z, z < n → (C z = true ↔ ∃ i, s ≤ i ∧ i < e ∧ σ i = z)) : ∀ z, z < n → (C z = true ↔ ∃ i, s ≤ i ∧ i < e ∧ τ i = z) := by
  intro z hz
  rw [hC z hz]
  constructor
  · rintro ⟨i, a, b, rfl⟩
    obtain ⟨j, c1, c2, c3⟩ := h.2.2.1 i a b
    exact ⟨j, c1, c2, c3⟩
  · rintro ⟨i, a, b, rfl⟩
    obtain ⟨j, c1, c2, c3⟩ := h.2.1 i a b
    exact ⟨j, c1, c2, c3.symm⟩
theorem settle_runs {n f s e dp : Nat} {S K : Nat → Nat → Int32} {C : Nat → Bool} {X0 : XT} {σ0 : Nat → Nat} (IH : StP sc d g n S K f) (hn : n ≤ 5) (he : e ≤ n) (hsz : e - s ≤ f + 1) (hdp : dp + (e - s) ≤ 5) (hse : s < e) (hG0 : GF X0 g n S K) (hinj0 : ∀ i j, i < n → j < n → σ0 i = σ0 j → i = j) (hC0 : ∀ z, z < n → (C z = true ↔ ∃ i, s ≤ i ∧ i < e ∧ σ0 i = z)) (hAL : ALb S n C = false) :
    ∀ (q fr nx : Nat) (X : XT) (τ : Nat → Nat), nx + q = e + 1 → s ≤ fr → fr < nx → fr ≤ e → (nx = e + 1 → fr = e) → Fr [11, 12, 14] X0 X → OrdH X n τ → PS s e σ0 τ →
    (∀ i, fr ≤ i → i < e → ∀ c, c < 3 → mrow X (τ i) c = k3 S n C (τ i) c) →
    (∀ i j, s ≤ i → i < j → j < e → ¬ bet (k3 S n C (τ j)) (k3 S n C (τ i)) 3) →
    (∀ i, fr ≤ i → i < nx → i < e → fa (k3 S n C (τ fr)) (k3 S n C (τ i)) 3 = 3) →
    (∀ i j, s ≤ i → i < fr → fr ≤ j → j < e → ¬ fa (k3 S n C (τ i)) (k3 S n C (τ j)) 3 = 3) →
    (∀ i, s ≤ i → i < fr → i = s + POS S n K (f + 1) C (τ i)) →
    (∀ i j, s ≤ i → i < e → s ≤ j → j < e → i ≠ j → (i < fr ∨ j < fr) → RU X (τ i) (τ j) = nI (RUL S n K (f + 1) C (τ i) (τ j))) →
    (∀ i j, fr ≤ i → i < e → fr ≤ j → j < e → i ≠ j → fa (k3 S n C (τ i)) (k3 S n C (τ j)) 3 < 3 → RU X (τ i) (τ j) = nI (1 + fa (k3 S n C (τ i)) (k3 S n C (τ j)) 3)) →
    (∀ i j, i < n → j < n → i ≠ j → ¬ (s ≤ i ∧ i < e ∧ s ≤ j ∧ j < e) → RU X (τ i) (τ j) = RU X0 (τ i) (τ j)) →
    (∀ z, z < n → C z = false → mrow X z = mrow X0 z) →
    ∃ (Z : XT) (υ : Nat → Nat), Ev sc (d + 5 + (f + 1)) 48 11 [vR 8 0 0, vR 2 0 g, vI (nI s), vI (nI e), vI (nI dp), vI (nI fr), vI (nI nx)] [] X (.inl none) Z 0 ∧ Fr [11, 12, 14] X0 Z ∧ OrdH Z n υ ∧ PS s e σ0 υ ∧ (∀ i, s ≤ i → i < e → i = s + POS S n K (f + 1) C (υ i)) ∧
      (∀ i j, s ≤ i → i < e → s ≤ j → j < e → i ≠ j → RU Z (υ i) (υ j) = nI (RUL S n K (f + 1) C (υ i) (υ j))) ∧ (∀ i j, i < n → j < n → i ≠ j → ¬ (s ≤ i ∧ i < e ∧ s ≤ j ∧ j < e) → RU Z (υ i) (υ j) = RU X0 (υ i) (υ j)) ∧ (∀ z, z < n → C z = false → mrow Z z = mrow X0 z) := by
  intro q
  induction q with
  | zero =>
    intro fr nx X τ hq hs hfn hfe hend hf hO hP hb hc hd hE hF hF2 hg hh hm
    have hfr : fr = e := hend (by omega)
    refine ⟨X, τ, ?_, hf, hO, hP, fun i a b => hF i a (by omega), fun i j a b c1 c2 c3 => hF2 i j a b c1 c2 c3 (by omega), hh, hm⟩
    refine ev_seg rfl ?_
    simp only [TE, sxs, sx, ldI, ldA, stI, stA, inc, gtF, ptF, ldX, stX, ldR, ldL, stL, dp1, dp2, Tm, kS0, kS1, kS2, kS3, kS4, kS5, kS6, kS7, kS8, kS9, kS10, kS11, kS12, kS13, kS14, kS15, kS16, kS17, kS18, kS19, kS20, kS21, kS22, kS23, kS24, kS25, kS26, kS27, kS28, kS30, kS31, kS32, kS33, kS34, kS35, kS36, kS37, kS38, kS39, kS40, kS41, kS42, kS43, kS51, kS52, kS53, List.getElem?_cons_zero, List.getElem?_cons_succ, List.set_cons_zero, List.set_cons_succ, List.length_cons, List.length_nil, List.drop_succ_cons, List.drop_zero, List.cons_append, List.nil_append, Option.toList_some, Option.toList_none, cz, ci2, true_and, and_true, and_self, true_or, or_true, nI_1, Nat.reduceAdd, Nat.reduceLT]
    refine ⟨fun _ => ?_, fun h => absurd ?_ h⟩
    · refine ev_seg rfl ?_
      simp only [TE, sxs, sx, ldI, ldA, stI, stA, inc, gtF, ptF, ldX, stX, ldR, ldL, stL, dp1, dp2, Tm, kS0, kS1, kS2, kS3, kS4, kS5, kS6, kS7, kS8, kS9, kS10, kS11, kS12, kS13, kS14, kS15, kS16, kS17, kS18, kS19, kS20, kS21, kS22, kS23, kS24, kS25, kS26, kS27, kS28, kS30, kS31, kS32, kS33, kS34, kS35, kS36, kS37, kS38, kS39, kS40, kS41, kS42, kS43, kS51, kS52, kS53, List.getElem?_cons_zero, List.getElem?_cons_succ, List.set_cons_zero, List.set_cons_succ, List.length_cons, List.length_nil, List.drop_succ_cons, List.drop_zero, List.cons_append, List.nil_append, Option.toList_some, Option.toList_none, cz, ci2, true_and, and_true, and_self, true_or, or_true, nI_1, Nat.reduceAdd, Nat.reduceLT]
    · exact nI_lt (by omega) (by omega)
  | succ q ih =>
    intro fr nx X τ hq hs hfn hfe hend hf hO hP hb hc hd hE hF hF2 hg hh hm
    have hnx : nx ≤ e := by omega
    have hlt : ∀ i, i < n → τ i < n := fun i hi => (hO i hi).2
    have hinj := hP.2.2.2 n he hinj0
    have hC := PS_C hP hC0
    have hCi : ∀ i, s ≤ i → i < e → C (τ i) = true := fun i a b => (hC _ (hlt i (by omega))).mpr ⟨i, a, b, rfl⟩
    have hG := hG0.fr hf
    have hfe2 : fr < e := by omega
    -- keys that are alike
    have al_bet : ∀ {a a' b b' : Nat}, fa (k3 S n C a) (k3 S n C a') 3 = 3 → fa (k3 S n C b) (k3 S n C b') 3 = 3 → (bet (k3 S n C a) (k3 S n C b) 3 ↔ bet (k3 S n C a') (k3 S n C b') 3) := fun h1 h2 => bet_congr (fa_all.mp h1) (fa_all.mp h2)
    have al_fa : ∀ {a a' b b' : Nat}, fa (k3 S n C a) (k3 S n C a') 3 = 3 → fa (k3 S n C b) (k3 S n C b') 3 = 3 → fa (k3 S n C a) (k3 S n C b) 3 = fa (k3 S n C a') (k3 S n C b') 3 := fun h1 h2 => fa_congr (fa_all.mp h1) (fa_all.mp h2)
    have al_rf : ∀ a, fa (k3 S n C a) (k3 S n C a) 3 = 3 := fun a => fa_all.mpr (fun _ _ => rfl)
    have al_sy : ∀ {a b : Nat}, fa (k3 S n C a) (k3 S n C b) 3 = 3 → fa (k3 S n C b) (k3 S n C a) 3 = 3 := fun h => by rw [fa_comm]; exact h
    -- the run ends here, or goes on
    have hcase : (nx = e ∨ (nx < e ∧ fa (k3 S n C (τ fr)) (k3 S n C (τ nx)) 3 < 3)) ∨ (nx < e ∧ fa (k3 S n C (τ fr)) (k3 S n C (τ nx)) 3 = 3) := by
      rcases Nat.lt_or_ge nx e with w | w
      · have := fa_le (k3 S n C (τ fr)) (k3 S n C (τ nx)) 3
        rcases Nat.lt_or_ge (fa (k3 S n C (τ fr)) (k3 S n C (τ nx)) 3) 3 with w2 | w2
        · exact Or.inl (Or.inr ⟨w, w2⟩)
        · exact Or.inr ⟨w, by omega⟩
      · exact Or.inl (Or.inl (by omega))
    have hmk : ∀ i, fr ≤ i → i < e → fa (mrow X (τ fr)) (mrow X (τ i)) 3 = fa (k3 S n C (τ fr)) (k3 S n C (τ i)) 3 := fun i a b => fa_congr (hb fr (Nat.le_refl _) hfe2) (hb i a b)
    rcases hcase with hend2 | ⟨hnx2, hal⟩
    · -- settle the run
      have hrun : ∀ z, z < n → (alk S n C (τ fr) z = true ↔ ∃ i, fr ≤ i ∧ i < nx ∧ τ i = z) := by
        intro z hz
        unfold alk
        rw [Bool.and_eq_true, decide_eq_true_eq]
        constructor
        · rintro ⟨h1, h2⟩
          obtain ⟨i, a, b, rfl⟩ := (hC z hz).mp h1
          have hi1 : fr ≤ i := by
            rcases Nat.lt_or_ge i fr with w | w
            · exact absurd (al_sy h2) (hE i fr a w (Nat.le_refl _) hfe2)
            · exact w
          refine ⟨i, hi1, ?_, rfl⟩
          rcases Nat.lt_or_ge i nx with w | w
          · exact w
          · exfalso
            rcases hend2 with h3 | ⟨h3, h4⟩
            · omega
            · have hb1 : bet (k3 S n C (τ fr)) (k3 S n C (τ nx)) 3 := (bet_tot (by omega)).resolve_right (hc fr nx hs hfn h3)
              by_cases hin : i = nx
              · subst hin; omega
              · have := hc nx i (by omega) (by omega) b
                rw [al_bet (al_sy h2) (al_rf _)] at this
                exact this hb1
        · rintro ⟨i, a, b, rfl⟩
          exact ⟨hCi i (by omega) (by omega), hd i a b (by omega)⟩
      have hsmall : nx - fr < e - s := by
        rcases Nat.lt_or_ge (nx - fr) (e - s) with w | w
        · exact w
        · exfalso
          have h1 : fr = s := by omega
          have h2 : nx = e := by omega
          have : ALb S n C = true := ALb_iff.mpr (fun x z hx hz h3 h4 => by
            obtain ⟨i, a, b, rfl⟩ := (hC x hx).mp h3
            obtain ⟨j, a', b', rfl⟩ := (hC z hz).mp h4
            rw [al_fa (al_sy (hd i (by omega) (by omega) b)) (al_sy (hd j (by omega) (by omega) b'))]
            exact al_rf _)
          rw [hAL] at this
          cases this
      obtain ⟨Z1, υ, a1, a2, a3, a4, a5, a6, a7, a8⟩ := IH fr nx (dp + 1) (alk S n C (τ fr)) τ X (by omega) (by omega) (by omega) (by omega) hG hO hinj hrun
      -- places keep their keys
      have hkey : ∀ i, s ≤ i → i < e → fa (k3 S n C (υ i)) (k3 S n C (τ i)) 3 = 3 := by
        intro i a b
        by_cases hin : fr ≤ i ∧ i < nx
        · obtain ⟨j, b1, b2, b3⟩ := a4.2.1 i hin.1 hin.2
          rw [b3, al_fa (al_sy (hd j b1 b2 (by omega))) (al_sy (hd i hin.1 hin.2 b))]
          exact al_rf _
        · rw [a4.1 i (by omega)]
          exact al_rf _
      have hsame : ∀ i, (i < fr ∨ nx ≤ i) → υ i = τ i := a4.1
      have hrunk : ∀ i, fr ≤ i → i < nx → fa (k3 S n C (τ fr)) (k3 S n C (υ i)) 3 = 3 := by
        intro i a b
        obtain ⟨j, b1, b2, b3⟩ := a4.2.1 i a b
        rw [b3]
        exact hd j b1 b2 (by omega)
      have hdiff : ∀ i j, fr ≤ i → i < nx → nx ≤ j → j < e → ¬ fa (k3 S n C (τ i)) (k3 S n C (τ j)) 3 = 3 := by
        intro i j a b c1 c2 h
        have h9 : alk S n C (τ fr) (τ j) = true := by
          unfold alk
          rw [Bool.and_eq_true, decide_eq_true_eq]
          refine ⟨hCi j (by omega) c2, ?_⟩
          rw [al_fa (hd i a b (by omega)) (al_rf _)]
          exact h
        obtain ⟨i', b1, b2, b3⟩ := (hrun _ (hlt j (by omega))).mp h9
        have := hinj i' j (by omega) (by omega) b3
        omega
      have hkp : fr = s + kap (k3 S n C) 3 C n (τ fr) := by
        have h9 := kap_pos (K := k3 S n C) (m := 3) (C := C) (fr := fr) he hlt hinj hC hs hfe2 (fun i a b => (bet_tot (hE i fr a b (Nat.le_refl _) hfe2)).resolve_right (hc i fr a b hfe2)) (fun i a b => by
          by_cases hi : i = fr
          · rw [hi]; exact bet_irr _ _
          · exact hc fr i hs (by omega) b)
        omega
      have halk : ∀ i, fr ≤ i → i < nx → ∀ z, z < n → alk S n C (υ i) z = alk S n C (τ fr) z := by
        intro i a b z _
        unfold alk
        rw [al_fa (al_sy (hrunk i a b)) (al_rf z)]
      have hυ : ∀ i, s ≤ i → i < e → ∃ i', s ≤ i' ∧ i' < e ∧ υ i = τ i' ∧ ((fr ≤ i ∧ i < nx ∧ fr ≤ i' ∧ i' < nx) ∨ i' = i) := by
        intro i a b
        by_cases hin : fr ≤ i ∧ i < nx
        · obtain ⟨j, b1, b2, b3⟩ := a4.2.1 i hin.1 hin.2
          exact ⟨j, by omega, by omega, b3, Or.inl ⟨hin.1, hin.2, b1, b2⟩⟩
        · exact ⟨i, a, b, hsame i (by omega), Or.inr rfl⟩
      have hPS2 : PS s e σ0 υ := hP.tr (a4.mo hs (by omega))
      have hinj2 := hPS2.2.2.2 n he hinj0
      obtain ⟨Z, ω, b1, b2, b3, b4, b5, b6, b7, b8⟩ := ih nx (nx + 1) Z1 υ (by omega) (by omega) (by omega) hnx (fun _ => by omega) (hf.tr a2) a3 hPS2
        (fun i p1 p2 c p3 => by
          rw [hsame i (by omega)]
          have hno : alk S n C (τ fr) (τ i) = false := by
            cases h9 : alk S n C (τ fr) (τ i) with
            | false => rfl
            | true =>
              obtain ⟨i', q1, q2, q3⟩ := (hrun _ (hlt i (by omega))).mp h9
              have := hinj i' i (by omega) (by omega) q3
              omega
          rw [a8 _ (hlt i (by omega)) hno]
          exact hb i (by omega) p2 c p3)
        (fun i j p1 p2 p3 => by
          rw [al_bet (hkey j (by omega) p3) (hkey i p1 (by omega))]
          exact hc i j p1 p2 p3)
        (fun i p1 p2 p3 => by
          rw [show i = nx by omega]
          exact al_rf _)
        (fun i j p1 p2 p3 p4 => by
          rw [al_fa (hkey i p1 (by omega)) (hkey j (by omega) p4)]
          by_cases hif : i < fr
          · exact hE i j p1 hif (by omega) p4
          · exact hdiff i j (by omega) p2 p3 p4)
        (fun i p1 p2 => by
          by_cases hif : i < fr
          · rw [hsame i (by omega)]
            exact hF i p1 hif
          · have h9 := a5 i (by omega) p2
            have e1 : POS S n K (f + 1) C (υ i) = kap (k3 S n C) 3 C n (υ i) + POS S n K f (alk S n C (υ i)) (υ i) := by
              show (if ALb S n C = true then _ else _) = _
              rw [if_neg (by rw [hAL]; decide)]
            rw [e1, POS_congr f (halk i (by omega) p2) ((a3 i (by omega)).2), ← kap_eq (C := C) (n := n) (hrunk i (by omega) p2)]
            omega)
        (fun i j p1 p2 p3 p4 p5 p6 => by
          have hRUL : ∀ {a b : Nat}, fa (k3 S n C a) (k3 S n C b) 3 < 3 → RUL S n K (f + 1) C a b = 1 + fa (k3 S n C a) (k3 S n C b) 3 := fun h => if_pos h
          by_cases hboth : (fr ≤ i ∧ i < nx) ∧ (fr ≤ j ∧ j < nx)
          · rw [a6 i j hboth.1.1 hboth.1.2 hboth.2.1 hboth.2.2 p5]
            have e1 : RUL S n K (f + 1) C (υ i) (υ j) = RUL S n K f (alk S n C (υ i)) (υ i) (υ j) := by
              have h3 : fa (k3 S n C (υ i)) (k3 S n C (υ j)) 3 = 3 := by
                rw [al_fa (al_sy (hrunk i hboth.1.1 hboth.1.2)) (al_sy (hrunk j hboth.2.1 hboth.2.2))]
                exact al_rf _
              show (if _ then _ else if _ then _ else _) = _
              rw [if_neg (by omega), if_neg (by rw [hAL]; decide)]
            rw [e1, RUL_congr f (halk i hboth.1.1 hboth.1.2)]
          · rw [a7 i j (by omega) (by omega) p5 (by omega)]
            obtain ⟨i', q1, q2, q3, q4⟩ := hυ i p1 p2
            obtain ⟨j', r1, r2, r3, r4⟩ := hυ j p3 p4
            rw [q3, r3]
            have hne : i' ≠ j' := by omega
            by_cases hold : i' < fr ∨ j' < fr
            · exact hF2 i' j' q1 q2 r1 r2 hne hold
            · have h3 : fa (k3 S n C (τ i')) (k3 S n C (τ j')) 3 < 3 := by
                have := fa_le (k3 S n C (τ i')) (k3 S n C (τ j')) 3
                have h4 : ¬ fa (k3 S n C (τ i')) (k3 S n C (τ j')) 3 = 3 := by
                  by_cases hi2 : i' < nx
                  · exact hdiff i' j' (by omega) hi2 (by omega) r2
                  · rw [fa_comm]
                    exact hdiff j' i' (by omega) (by omega) (by omega) q2
                omega
              rw [hg i' j' (by omega) q2 (by omega) r2 hne h3, hRUL h3])
        (fun i j p1 p2 p3 p4 p5 p6 => by
          rw [a7 i j (by omega) (by omega) p5 (by omega)]
          rw [hsame i (by omega), hsame j (by omega)] at p6 ⊢
          exact hg i j (by omega) p2 (by omega) p4 p5 p6)
        (fun i j p1 p2 p3 p4 => by
          rw [a7 i j p1 p2 p3 (by omega)]
          by_cases hi : s ≤ i ∧ i < e
          · have hj : ¬ (s ≤ j ∧ j < e) := fun w => p4 ⟨hi.1, hi.2, w.1, w.2⟩
            obtain ⟨i', q1, q2, q3, q4⟩ := hυ i hi.1 hi.2
            rw [q3, hsame j (by omega)]
            exact hh i' j (by omega) p2 (by omega) (by omega)
          · by_cases hj : s ≤ j ∧ j < e
            · obtain ⟨j', q1, q2, q3, q4⟩ := hυ j hj.1 hj.2
              rw [q3, hsame i (by omega)]
              exact hh i j' p1 (by omega) (by omega) (by omega)
            · rw [hsame i (by omega), hsame j (by omega)]
              exact hh i j p1 p2 p3 p4)
        (fun z p1 p2 => by
          rw [a8 z p1 (by unfold alk; rw [p2]; rfl)]
          exact hm z p1 p2)
      refine ⟨Z, ω, ?_, b2, b3, b4, b5, b6, b7, b8⟩
      have hin : Ev sc (d + 5 + (f + 1)) 48 13 [vR 8 0 0, vR 2 0 g, vI (nI s), vI (nI e), vI (nI dp), vI (nI fr), vI (nI nx)] [vI 1] X (.inl none) Z 0 := by
        refine ev_seg rfl ?_
        simp only [TE, sxs, sx, ldI, ldA, stI, stA, inc, gtF, ptF, ldX, stX, ldR, ldL, stL, dp1, dp2, Tm, kS0, kS1, kS2, kS3, kS4, kS5, kS6, kS7, kS8, kS9, kS10, kS11, kS12, kS13, kS14, kS15, kS16, kS17, kS18, kS19, kS20, kS21, kS22, kS23, kS24, kS25, kS26, kS27, kS28, kS30, kS31, kS32, kS33, kS34, kS35, kS36, kS37, kS38, kS39, kS40, kS41, kS42, kS43, kS51, kS52, kS53, List.getElem?_cons_zero, List.getElem?_cons_succ, List.set_cons_zero, List.set_cons_succ, List.length_cons, List.length_nil, List.drop_succ_cons, List.drop_zero, List.cons_append, List.nil_append, Option.toList_some, Option.toList_none, cz, ci2, true_and, and_true, and_self, true_or, or_true, nI_1, Nat.reduceAdd, Nat.reduceLT]
        refine ⟨fun h => absurd h (by decide), fun _ => ?_⟩
        refine ev_seg rfl ?_
        simp only [TE, sxs, sx, ldI, ldA, stI, stA, inc, gtF, ptF, ldX, stX, ldR, ldL, stL, dp1, dp2, Tm, kS0, kS1, kS2, kS3, kS4, kS5, kS6, kS7, kS8, kS9, kS10, kS11, kS12, kS13, kS14, kS15, kS16, kS17, kS18, kS19, kS20, kS21, kS22, kS23, kS24, kS25, kS26, kS27, kS28, kS30, kS31, kS32, kS33, kS34, kS35, kS36, kS37, kS38, kS39, kS40, kS41, kS42, kS43, kS51, kS52, kS53, List.getElem?_cons_zero, List.getElem?_cons_succ, List.set_cons_zero, List.set_cons_succ, List.length_cons, List.length_nil, List.drop_succ_cons, List.drop_zero, List.cons_append, List.nil_append, Option.toList_some, Option.toList_none, cz, ci2, true_and, and_true, and_self, true_or, or_true, nI_1, Nat.reduceAdd, Nat.reduceLT]
        refine cu5 rfl rfl (by first | exact rfl | exact trivial) (a1) ?_
        refine ev_seg rfl ?_
        simp only [TE, sxs, sx, ldI, ldA, stI, stA, inc, gtF, ptF, ldX, stX, ldR, ldL, stL, dp1, dp2, Tm, kS0, kS1, kS2, kS3, kS4, kS5, kS6, kS7, kS8, kS9, kS10, kS11, kS12, kS13, kS14, kS15, kS16, kS17, kS18, kS19, kS20, kS21, kS22, kS23, kS24, kS25, kS26, kS27, kS28, kS30, kS31, kS32, kS33, kS34, kS35, kS36, kS37, kS38, kS39, kS40, kS41, kS42, kS43, kS51, kS52, kS53, List.getElem?_cons_zero, List.getElem?_cons_succ, List.set_cons_zero, List.set_cons_succ, List.length_cons, List.length_nil, List.drop_succ_cons, List.drop_zero, List.cons_append, List.nil_append, Option.toList_some, Option.toList_none, cz, ci2, true_and, and_true, and_self, true_or, or_true, nI_1, Nat.reduceAdd, Nat.reduceLT]
        refine ev_seg rfl ?_
        simp only [TE, sxs, sx, ldI, ldA, stI, stA, inc, gtF, ptF, ldX, stX, ldR, ldL, stL, dp1, dp2, Tm, kS0, kS1, kS2, kS3, kS4, kS5, kS6, kS7, kS8, kS9, kS10, kS11, kS12, kS13, kS14, kS15, kS16, kS17, kS18, kS19, kS20, kS21, kS22, kS23, kS24, kS25, kS26, kS27, kS28, kS30, kS31, kS32, kS33, kS34, kS35, kS36, kS37, kS38, kS39, kS40, kS41, kS42, kS43, kS51, kS52, kS53, List.getElem?_cons_zero, List.getElem?_cons_succ, List.set_cons_zero, List.set_cons_succ, List.length_cons, List.length_nil, List.drop_succ_cons, List.drop_zero, List.cons_append, List.nil_append, Option.toList_some, Option.toList_none, cz, ci2, true_and, and_true, and_self, true_or, or_true, nI_1, Nat.reduceAdd, Nat.reduceLT]
        exact b1
      refine ev_seg rfl ?_
      simp only [TE, sxs, sx, ldI, ldA, stI, stA, inc, gtF, ptF, ldX, stX, ldR, ldL, stL, dp1, dp2, Tm, kS0, kS1, kS2, kS3, kS4, kS5, kS6, kS7, kS8, kS9, kS10, kS11, kS12, kS13, kS14, kS15, kS16, kS17, kS18, kS19, kS20, kS21, kS22, kS23, kS24, kS25, kS26, kS27, kS28, kS30, kS31, kS32, kS33, kS34, kS35, kS36, kS37, kS38, kS39, kS40, kS41, kS42, kS43, kS51, kS52, kS53, List.getElem?_cons_zero, List.getElem?_cons_succ, List.set_cons_zero, List.set_cons_succ, List.length_cons, List.length_nil, List.drop_succ_cons, List.drop_zero, List.cons_append, List.nil_append, Option.toList_some, Option.toList_none, cz, ci2, true_and, and_true, and_self, true_or, or_true, nI_1, Nat.reduceAdd, Nat.reduceLT]
      refine ⟨fun h => absurd h (fun w => i_nlt (nleI hnx (by omega)) w), fun _ => ?_⟩
      refine ev_seg rfl ?_
      simp only [TE, sxs, sx, ldI, ldA, stI, stA, inc, gtF, ptF, ldX, stX, ldR, ldL, stL, dp1, dp2, Tm, kS0, kS1, kS2, kS3, kS4, kS5, kS6, kS7, kS8, kS9, kS10, kS11, kS12, kS13, kS14, kS15, kS16, kS17, kS18, kS19, kS20, kS21, kS22, kS23, kS24, kS25, kS26, kS27, kS28, kS30, kS31, kS32, kS33, kS34, kS35, kS36, kS37, kS38, kS39, kS40, kS41, kS42, kS43, kS51, kS52, kS53, List.getElem?_cons_zero, List.getElem?_cons_succ, List.set_cons_zero, List.set_cons_succ, List.length_cons, List.length_nil, List.drop_succ_cons, List.drop_zero, List.cons_append, List.nil_append, Option.toList_some, Option.toList_none, cz, ci2, true_and, and_true, and_self, true_or, or_true, nI_1, Nat.reduceAdd, Nat.reduceLT]
      rcases hend2 with h3 | ⟨h3, h4⟩
      · refine cv5 rfl rfl (by first | exact rfl | exact trivial) (Ev_d (d' := d + 5 + f) (s_alikeE (d := 0) he hn (by omega) (by omega)) (by omega)) ?_
        exact hin
      · refine cv5 rfl rfl (by first | exact rfl | exact trivial) (Ev_d (d' := d + 5 + f) (s_alikeI (d := 0) he hn (by decide) (by omega) h3 hO) (by omega)) ?_
        have h9 : fa (mrow X (τ fr)) (mrow X (τ nx)) 3 < 3 := by rw [hmk nx (by omega) h3]; exact h4
        rw [bI_t h9]
        exact hin
    · -- it goes on
      obtain ⟨Z, ω, b1, b2, b3, b4, b5, b6, b7, b8⟩ := ih fr (nx + 1) X τ (by omega) hs (by omega) hfe (fun w => by omega) hf hO hP hb hc (fun i p1 p2 p3 => by
        by_cases hi : i = nx
        · rw [hi]; exact hal
        · exact hd i p1 (by omega) p3) hE hF hF2 hg hh hm
      refine ⟨Z, ω, ?_, b2, b3, b4, b5, b6, b7, b8⟩
      refine ev_seg rfl ?_
      simp only [TE, sxs, sx, ldI, ldA, stI, stA, inc, gtF, ptF, ldX, stX, ldR, ldL, stL, dp1, dp2, Tm, kS0, kS1, kS2, kS3, kS4, kS5, kS6, kS7, kS8, kS9, kS10, kS11, kS12, kS13, kS14, kS15, kS16, kS17, kS18, kS19, kS20, kS21, kS22, kS23, kS24, kS25, kS26, kS27, kS28, kS30, kS31, kS32, kS33, kS34, kS35, kS36, kS37, kS38, kS39, kS40, kS41, kS42, kS43, kS51, kS52, kS53, List.getElem?_cons_zero, List.getElem?_cons_succ, List.set_cons_zero, List.set_cons_succ, List.length_cons, List.length_nil, List.drop_succ_cons, List.drop_zero, List.cons_append, List.nil_append, Option.toList_some, Option.toList_none, cz, ci2, true_and, and_true, and_self, true_or, or_true, nI_1, Nat.reduceAdd, Nat.reduceLT]
      refine ⟨fun h => absurd h (fun w => i_nlt (nleI hnx (by omega)) w), fun _ => ?_⟩
      refine ev_seg rfl ?_
      simp only [TE, sxs, sx, ldI, ldA, stI, stA, inc, gtF, ptF, ldX, stX, ldR, ldL, stL, dp1, dp2, Tm, kS0, kS1, kS2, kS3, kS4, kS5, kS6, kS7, kS8, kS9, kS10, kS11, kS12, kS13, kS14, kS15, kS16, kS17, kS18, kS19, kS20, kS21, kS22, kS23, kS24, kS25, kS26, kS27, kS28, kS30, kS31, kS32, kS33, kS34, kS35, kS36, kS37, kS38, kS39, kS40, kS41, kS42, kS43, kS51, kS52, kS53, List.getElem?_cons_zero, List.getElem?_cons_succ, List.set_cons_zero, List.set_cons_succ, List.length_cons, List.length_nil, List.drop_succ_cons, List.drop_zero, List.cons_append, List.nil_append, Option.toList_some, Option.toList_none, cz, ci2, true_and, and_true, and_self, true_or, or_true, nI_1, Nat.reduceAdd, Nat.reduceLT]
      refine cv5 rfl rfl (by first | exact rfl | exact trivial) (Ev_d (d' := d + 5 + f) (s_alikeI (d := 0) he hn (by decide) (by omega) hnx2 hO) (by omega)) ?_
      have h9 : ¬ fa (mrow X (τ fr)) (mrow X (τ nx)) 3 < 3 := by rw [hmk nx (by omega) hnx2, hal]; decide
      rw [bI_f h9]
      refine ev_seg rfl ?_
      simp only [TE, sxs, sx, ldI, ldA, stI, stA, inc, gtF, ptF, ldX, stX, ldR, ldL, stL, dp1, dp2, Tm, kS0, kS1, kS2, kS3, kS4, kS5, kS6, kS7, kS8, kS9, kS10, kS11, kS12, kS13, kS14, kS15, kS16, kS17, kS18, kS19, kS20, kS21, kS22, kS23, kS24, kS25, kS26, kS27, kS28, kS30, kS31, kS32, kS33, kS34, kS35, kS36, kS37, kS38, kS39, kS40, kS41, kS42, kS43, kS51, kS52, kS53, List.getElem?_cons_zero, List.getElem?_cons_succ, List.set_cons_zero, List.set_cons_succ, List.length_cons, List.length_nil, List.drop_succ_cons, List.drop_zero, List.cons_append, List.nil_append, Option.toList_some, Option.toList_none, cz, ci2, true_and, and_true, and_self, true_or, or_true, nI_1, Nat.reduceAdd, Nat.reduceLT]
      refine ⟨fun _ => ?_, fun h => absurd trivial h⟩
      refine ev_seg rfl ?_
      simp only [TE, sxs, sx, ldI, ldA, stI, stA, inc, gtF, ptF, ldX, stX, ldR, ldL, stL, dp1, dp2, Tm, kS0, kS1, kS2, kS3, kS4, kS5, kS6, kS7, kS8, kS9, kS10, kS11, kS12, kS13, kS14, kS15, kS16, kS17, kS18, kS19, kS20, kS21, kS22, kS23, kS24, kS25, kS26, kS27, kS28, kS30, kS31, kS32, kS33, kS34, kS35, kS36, kS37, kS38, kS39, kS40, kS41, kS42, kS43, kS51, kS52, kS53, List.getElem?_cons_zero, List.getElem?_cons_succ, List.set_cons_zero, List.set_cons_succ, List.length_cons, List.length_nil, List.drop_succ_cons, List.drop_zero, List.cons_append, List.nil_append, Option.toList_some, Option.toList_none, cz, ci2, true_and, and_true, and_self, true_or, or_true, nI_1, Nat.reduceAdd, Nat.reduceLT]
      exact b1
theorem s_settle {n : Nat} {S K : Nat → Nat → Int32} (hn : n ≤ 5) (hK : ∀ a b, a < n → b < n → a ≠ b → ¬ fa (K a) (K b) 4 = 4) : ∀ f, StP sc d g n S K f := by
  intro f
  induction f with
  | zero =>
    intro s e dp C σ X hse he hsz hdp hG hO hinj hC
    refine ⟨X, σ, ?_, Fr.rf _ _, hO, PS.rf _ _ _, fun i a b => absurd b (by omega), fun i j a b => absurd b (by omega), fun _ _ _ _ _ _ => rfl, fun _ _ _ => rfl⟩
    rw [en48]
    refine ev_seg rfl ?_
    simp only [TE, sxs, sx, ldI, ldA, stI, stA, inc, gtF, ptF, ldX, stX, ldR, ldL, stL, dp1, dp2, Tm, kS0, kS1, kS2, kS3, kS4, kS5, kS6, kS7, kS8, kS9, kS10, kS11, kS12, kS13, kS14, kS15, kS16, kS17, kS18, kS19, kS20, kS21, kS22, kS23, kS24, kS25, kS26, kS27, kS28, kS30, kS31, kS32, kS33, kS34, kS35, kS36, kS37, kS38, kS39, kS40, kS41, kS42, kS43, kS51, kS52, kS53, List.getElem?_cons_zero, List.getElem?_cons_succ, List.set_cons_zero, List.set_cons_succ, List.length_cons, List.length_nil, List.drop_succ_cons, List.drop_zero, List.cons_append, List.nil_append, Option.toList_some, Option.toList_none, cz, ci2, true_and, and_true, and_self, true_or, or_true, nI_1, Nat.reduceAdd, Nat.reduceLT, pk_sub hse]
    refine ⟨fun _ => ?_, fun h => absurd (nI_lt (a := e - s) (b := 2) (by omega) (by decide)) h⟩
    refine ev_seg rfl ?_
    simp only [TE, sxs, sx, ldI, ldA, stI, stA, inc, gtF, ptF, ldX, stX, ldR, ldL, stL, dp1, dp2, Tm, kS0, kS1, kS2, kS3, kS4, kS5, kS6, kS7, kS8, kS9, kS10, kS11, kS12, kS13, kS14, kS15, kS16, kS17, kS18, kS19, kS20, kS21, kS22, kS23, kS24, kS25, kS26, kS27, kS28, kS30, kS31, kS32, kS33, kS34, kS35, kS36, kS37, kS38, kS39, kS40, kS41, kS42, kS43, kS51, kS52, kS53, List.getElem?_cons_zero, List.getElem?_cons_succ, List.set_cons_zero, List.set_cons_succ, List.length_cons, List.length_nil, List.drop_succ_cons, List.drop_zero, List.cons_append, List.nil_append, Option.toList_some, Option.toList_none, cz, ci2, true_and, and_true, and_self, true_or, or_true, nI_1, Nat.reduceAdd, Nat.reduceLT]
  | succ f IH =>
    intro s e dp C σ X hse he hsz hdp hG hO hinj hC
    by_cases h2 : e - s < 2
    · refine ⟨X, σ, ?_, Fr.rf _ _, hO, PS.rf _ _ _, fun i a b => ?_, fun i j a b c1 c2 c3 => absurd c3 (by omega), fun _ _ _ _ _ _ => rfl, fun _ _ _ => rfl⟩
      · rw [en48]
        refine ev_seg rfl ?_
        simp only [TE, sxs, sx, ldI, ldA, stI, stA, inc, gtF, ptF, ldX, stX, ldR, ldL, stL, dp1, dp2, Tm, kS0, kS1, kS2, kS3, kS4, kS5, kS6, kS7, kS8, kS9, kS10, kS11, kS12, kS13, kS14, kS15, kS16, kS17, kS18, kS19, kS20, kS21, kS22, kS23, kS24, kS25, kS26, kS27, kS28, kS30, kS31, kS32, kS33, kS34, kS35, kS36, kS37, kS38, kS39, kS40, kS41, kS42, kS43, kS51, kS52, kS53, List.getElem?_cons_zero, List.getElem?_cons_succ, List.set_cons_zero, List.set_cons_succ, List.length_cons, List.length_nil, List.drop_succ_cons, List.drop_zero, List.cons_append, List.nil_append, Option.toList_some, Option.toList_none, cz, ci2, true_and, and_true, and_self, true_or, or_true, nI_1, Nat.reduceAdd, Nat.reduceLT, pk_sub hse]
        refine ⟨fun _ => ?_, fun h => absurd (nI_lt (a := e - s) (b := 2) (by omega) (by decide)) h⟩
        refine ev_seg rfl ?_
        simp only [TE, sxs, sx, ldI, ldA, stI, stA, inc, gtF, ptF, ldX, stX, ldR, ldL, stL, dp1, dp2, Tm, kS0, kS1, kS2, kS3, kS4, kS5, kS6, kS7, kS8, kS9, kS10, kS11, kS12, kS13, kS14, kS15, kS16, kS17, kS18, kS19, kS20, kS21, kS22, kS23, kS24, kS25, kS26, kS27, kS28, kS30, kS31, kS32, kS33, kS34, kS35, kS36, kS37, kS38, kS39, kS40, kS41, kS42, kS43, kS51, kS52, kS53, List.getElem?_cons_zero, List.getElem?_cons_succ, List.set_cons_zero, List.set_cons_succ, List.length_cons, List.length_nil, List.drop_succ_cons, List.drop_zero, List.cons_append, List.nil_append, Option.toList_some, Option.toList_none, cz, ci2, true_and, and_true, and_self, true_or, or_true, nI_1, Nat.reduceAdd, Nat.reduceLT]
      · rw [POS_one (fun z hz hc => by
          obtain ⟨j, p1, p2, rfl⟩ := (hC z hz).mp hc
          rw [show j = i by omega])]
        omega
    · -- the marks among the tied
      have hlt : ∀ i, i < n → σ i < n := fun i hi => (hO i hi).2
      obtain ⟨X1, a1, a2, a3, a4⟩ := s_markTied (sc := sc) (d := d + 5 + f - 2) hG.1 hn hse he hinj hO
      generalize hM : (fun j => (mkM σ s (e - s)).testBit j) = CM at a3
      have hCM : ∀ z, z < n → CM z = C z := by
        intro z hz
        have h1 : CM z = true ↔ C z = true := by
          rw [← hM, hC z hz]
          show (mkM σ s (e - s)).testBit z = true ↔ _
          rw [mkM_bit]
          constructor
          · rintro ⟨i, p1, p2, p3⟩; exact ⟨i, p1, by omega, p3⟩
          · rintro ⟨i, p1, p2, p3⟩; exact ⟨i, p1, by omega, p3⟩
        cases h2 : C z with
        | true => exact h1.mpr h2
        | false =>
          cases h3 : CM z with
          | false => rfl
          | true => rw [h1.mp h3] at h2; cases h2
      have hk3 : ∀ a c, k3 S n CM a c = k3 S n C a c := fun a c => k3_congr hCM a c
      have hO1 : OrdH X1 n σ := fun i hi => by
        obtain ⟨w1, w2⟩ := hO i hi
        exact ⟨by rw [a2.at 12 (by decide)]; exact w1, w2⟩
      obtain ⟨X2, τ, b1, b2, b3, b4, b5, b6⟩ := s_arrange (sc := sc) (d := d + 5 + f - 2) (X := X1) (m := 3) (fr := 1) hn (by omega : s < e) he (by decide) hinj hO1
      have hinj2 := b4.2.2.2 n he hinj
      have hC2 := PS_C b4 hC
      have hlt2 : ∀ i, i < n → τ i < n := fun i hi => (b3 i hi).2
      have hf2 : Fr [11, 12, 14] X X2 := (a2.mo (by decide)).tr (b2.mo (by decide))
      have hG2 := hG.fr hf2
      have hmk1 : ∀ i, s ≤ i → i < e → ∀ c, c < 3 → mrow X1 (τ i) c = k3 S n C (τ i) c := by
        intro i p1 p2 c hc
        obtain ⟨j, q1, q2, q3⟩ := b4.2.1 i p1 p2
        rw [q3, a3 j q1 q2 c hc, hG.2.1, hk3]
      have hmk2 : ∀ i, s ≤ i → i < e → ∀ c, c < 3 → mrow X2 (τ i) c = k3 S n C (τ i) c := by
        intro i p1 p2 c hc
        rw [mrow_fr b2 (by decide)]
        exact hmk1 i p1 p2 c hc
      have hfa : ∀ i j, s ≤ i → i < e → s ≤ j → j < e → fa (mrow X1 (τ i)) (mrow X1 (τ j)) 3 = fa (k3 S n C (τ i)) (k3 S n C (τ j)) 3 := fun i j p1 p2 p3 p4 => fa_congr (hmk1 i p1 p2) (hmk1 j p3 p4)
      have hsrt : ∀ i j, s ≤ i → i < j → j < e → ¬ bet (k3 S n C (τ j)) (k3 S n C (τ i)) 3 := by
        intro i j p1 p2 p3 w
        exact b5 i j p1 p2 p3 ((bet_congr (hmk1 j (by omega) p3) (hmk1 i p1 (by omega))).mpr w)
      have hout : ∀ z, z < n → C z = false → mrow X2 z = mrow X z := by
        intro z hz hc
        rw [mrow_fr b2 (by decide)]
        refine a4 z (by omega) (fun i p1 p2 p3 => ?_)
        have : C z = true := (hC z hz).mpr ⟨i, p1, p2, p3⟩
        rw [hc] at this
        cases this
      have hru1 : ∀ i j, i < n → j < n → i ≠ j → ¬ (s ≤ i ∧ i < e ∧ s ≤ j ∧ j < e) → RU X2 (τ i) (τ j) = RU X (τ i) (τ j) := by
        intro i j p1 p2 p3 p4
        rw [(b6 i j p1 p2 p3).2 (fun w => p4 ⟨w.1, w.2.1, w.2.2.1, w.2.2.2.1⟩)]
        exact a2.at 14 (by decide) _ _ _
      obtain ⟨o1, o2⟩ := b3 s (by omega)
      obtain ⟨o3, o4⟩ := b3 (e - 1) (by omega)
      have v1 : vp_in (nI s) 5 := vpn (by omega) (by decide)
      have v2 : vp_in (nI (e - 1)) 5 := vpn (by omega) (by decide)
      have w1 : vp_in (nI (τ s)) 5 := vpn (by omega) (by decide)
      have w2 : vp_in (nI (τ (e - 1))) 5 := vpn (by omega) (by decide)
      have e1 : nI e - 1 = nI (e - 1) := by
        have := pk_sub (a := e) (b := 1) (by omega)
        exact this
      have e0 : fa (fun c => X2.1 11 0 (nI (τ s)) (nI c)) (fun c => X2.1 11 0 (nI (τ (e - 1))) (nI c)) 3 = fa (k3 S n C (τ s)) (k3 S n C (τ (e - 1))) 3 := by
        show fa (mrow X2 (τ s)) (mrow X2 (τ (e - 1))) 3 = _
        exact fa_congr (hmk2 s (Nat.le_refl _) (by omega)) (hmk2 (e - 1) (by omega) (by omega))
      have hd9 : d + 5 + f - 2 + 2 = d + 5 + f := by omega
      rw [hd9] at a1 b1
      have fle := fa_le (k3 S n C (τ s)) (k3 S n C (τ (e - 1))) 3
      -- what the code does up to the comparison of the first and the last
      have pre : ∀ Z, Ev sc (d + 5 + (f + 1)) 48 6 [vR 8 0 0, vR 2 0 g, vI (nI s), vI (nI e), vI (nI dp), av0, av0] [vI (nI (fa (k3 S n C (τ s)) (k3 S n C (τ (e - 1))) 3))] X2 (.inl none) Z 0 → Ev sc (d + 5 + (f + 1)) 48 0 (ent 48 [vR 8 0 0, vR 2 0 g, vI (nI s), vI (nI e), vI (nI dp)]) [] X (.inl none) Z 0 := by
        intro Z hZ
        rw [en48]
        refine ev_seg rfl ?_
        simp only [TE, sxs, sx, ldI, ldA, stI, stA, inc, gtF, ptF, ldX, stX, ldR, ldL, stL, dp1, dp2, Tm, kS0, kS1, kS2, kS3, kS4, kS5, kS6, kS7, kS8, kS9, kS10, kS11, kS12, kS13, kS14, kS15, kS16, kS17, kS18, kS19, kS20, kS21, kS22, kS23, kS24, kS25, kS26, kS27, kS28, kS30, kS31, kS32, kS33, kS34, kS35, kS36, kS37, kS38, kS39, kS40, kS41, kS42, kS43, kS51, kS52, kS53, List.getElem?_cons_zero, List.getElem?_cons_succ, List.set_cons_zero, List.set_cons_succ, List.length_cons, List.length_nil, List.drop_succ_cons, List.drop_zero, List.cons_append, List.nil_append, Option.toList_some, Option.toList_none, cz, ci2, true_and, and_true, and_self, true_or, or_true, nI_1, Nat.reduceAdd, Nat.reduceLT, pk_sub hse]
        refine ⟨fun h => absurd h (fun w => i_nlt (nleI (by omega : 2 ≤ e - s) (by omega)) w), fun _ => ?_⟩
        refine ev_seg rfl ?_
        simp only [TE, sxs, sx, ldI, ldA, stI, stA, inc, gtF, ptF, ldX, stX, ldR, ldL, stL, dp1, dp2, Tm, kS0, kS1, kS2, kS3, kS4, kS5, kS6, kS7, kS8, kS9, kS10, kS11, kS12, kS13, kS14, kS15, kS16, kS17, kS18, kS19, kS20, kS21, kS22, kS23, kS24, kS25, kS26, kS27, kS28, kS30, kS31, kS32, kS33, kS34, kS35, kS36, kS37, kS38, kS39, kS40, kS41, kS42, kS43, kS51, kS52, kS53, List.getElem?_cons_zero, List.getElem?_cons_succ, List.set_cons_zero, List.set_cons_succ, List.length_cons, List.length_nil, List.drop_succ_cons, List.drop_zero, List.cons_append, List.nil_append, Option.toList_some, Option.toList_none, cz, ci2, true_and, and_true, and_self, true_or, or_true, nI_1, Nat.reduceAdd, Nat.reduceLT]
        refine ⟨fun _ => ?_, fun h => absurd (nI_lt (by omega : dp < 5) (by decide)) h⟩
        refine ev_seg rfl ?_
        simp only [TE, sxs, sx, ldI, ldA, stI, stA, inc, gtF, ptF, ldX, stX, ldR, ldL, stL, dp1, dp2, Tm, kS0, kS1, kS2, kS3, kS4, kS5, kS6, kS7, kS8, kS9, kS10, kS11, kS12, kS13, kS14, kS15, kS16, kS17, kS18, kS19, kS20, kS21, kS22, kS23, kS24, kS25, kS26, kS27, kS28, kS30, kS31, kS32, kS33, kS34, kS35, kS36, kS37, kS38, kS39, kS40, kS41, kS42, kS43, kS51, kS52, kS53, List.getElem?_cons_zero, List.getElem?_cons_succ, List.set_cons_zero, List.set_cons_succ, List.length_cons, List.length_nil, List.drop_succ_cons, List.drop_zero, List.cons_append, List.nil_append, Option.toList_some, Option.toList_none, cz, ci2, true_and, and_true, and_self, true_or, or_true, nI_1, Nat.reduceAdd, Nat.reduceLT]
        refine cu4 rfl rfl (by first | exact rfl | exact trivial) (a1) ?_
        refine ev_seg rfl ?_
        simp only [TE, sxs, sx, ldI, ldA, stI, stA, inc, gtF, ptF, ldX, stX, ldR, ldL, stL, dp1, dp2, Tm, kS0, kS1, kS2, kS3, kS4, kS5, kS6, kS7, kS8, kS9, kS10, kS11, kS12, kS13, kS14, kS15, kS16, kS17, kS18, kS19, kS20, kS21, kS22, kS23, kS24, kS25, kS26, kS27, kS28, kS30, kS31, kS32, kS33, kS34, kS35, kS36, kS37, kS38, kS39, kS40, kS41, kS42, kS43, kS51, kS52, kS53, List.getElem?_cons_zero, List.getElem?_cons_succ, List.set_cons_zero, List.set_cons_succ, List.length_cons, List.length_nil, List.drop_succ_cons, List.drop_zero, List.cons_append, List.nil_append, Option.toList_some, Option.toList_none, cz, ci2, true_and, and_true, and_self, true_or, or_true, nI_1, Nat.reduceAdd, Nat.reduceLT]
        refine cu5 rfl rfl (by first | exact rfl | exact trivial) (b1) ?_
        refine ev_seg rfl ?_
        simp only [TE, sxs, sx, ldI, ldA, stI, stA, inc, gtF, ptF, ldX, stX, ldR, ldL, stL, dp1, dp2, Tm, kS0, kS1, kS2, kS3, kS4, kS5, kS6, kS7, kS8, kS9, kS10, kS11, kS12, kS13, kS14, kS15, kS16, kS17, kS18, kS19, kS20, kS21, kS22, kS23, kS24, kS25, kS26, kS27, kS28, kS30, kS31, kS32, kS33, kS34, kS35, kS36, kS37, kS38, kS39, kS40, kS41, kS42, kS43, kS51, kS52, kS53, List.getElem?_cons_zero, List.getElem?_cons_succ, List.set_cons_zero, List.set_cons_succ, List.length_cons, List.length_nil, List.drop_succ_cons, List.drop_zero, List.cons_append, List.nil_append, Option.toList_some, Option.toList_none, cz, ci2, true_and, and_true, and_self, true_or, or_true, nI_1, Nat.reduceAdd, Nat.reduceLT, o1, e1, o3]
        refine ⟨(by first | assumption | (and_intros <;> first | assumption | trivial | decide)), cv4 rfl rfl (by first | exact rfl | exact trivial) (s_firstApart9 (m := 3) w1 w2 (by decide)) ?_⟩
        rw [e0]
        exact hZ
      by_cases hfl : fa (k3 S n C (τ s)) (k3 S n C (τ (e - 1))) 3 = 3
      · -- all alike
        have hAL : ALb S n C = true := by
          rw [ALb_iff]
          have key : ∀ i, s ≤ i → i < e → fa (k3 S n C (τ s)) (k3 S n C (τ i)) 3 = 3 := by
            intro i p1 p2
            refine Classical.byContradiction fun hne => ?_
            by_cases his : i = s
            · rw [his] at hne; exact hne (fa_all.mpr (fun _ _ => rfl))
            · have hb1 : bet (k3 S n C (τ s)) (k3 S n C (τ i)) 3 := (bet_tot hne).resolve_right (hsrt s i (Nat.le_refl _) (by omega) p2)
              by_cases hie : i = e - 1
              · rw [hie] at hne; exact hne hfl
              · have h5 := hsrt i (e - 1) p1 (by omega) (by omega)
                rw [bet_congr (f' := k3 S n C (τ s)) (g' := k3 S n C (τ i)) (fun c hc => (fa_all.mp hfl c hc).symm) (fun _ _ => rfl)] at h5
                exact h5 hb1
          intro x z hx hz h3 h4
          obtain ⟨i, p1, p2, rfl⟩ := (hC2 x hx).mp h3
          obtain ⟨j, q1, q2, rfl⟩ := (hC2 z hz).mp h4
          rw [fa_congr (f' := k3 S n C (τ s)) (g' := k3 S n C (τ s)) (fun c hc => (fa_all.mp (key i p1 p2) c hc).symm) (fun c hc => (fa_all.mp (key j q1 q2) c hc).symm)]
          exact fa_all.mpr (fun _ _ => rfl)
        obtain ⟨X3, c1, c2, c3, c4⟩ := s_markAll (sc := sc) (d := d + 5 + f - 2) hG2.1 hn hse he hinj2 b3
        have hO3 : OrdH X3 n τ := fun i hi => by
          obtain ⟨w1, w2⟩ := b3 i hi
          exact ⟨by rw [c2.at 12 (by decide)]; exact w1, w2⟩
        obtain ⟨X4, υ, d1, d2, d3, d4, d5, d6⟩ := s_arrange (sc := sc) (d := d + 5 + f - 2) (X := X3) (m := 4) (fr := 4) hn (by omega : s < e) he (by decide) hinj2 hO3
        rw [hd9] at c1 d1
        have hinj4 := d4.2.2.2 n he hinj2
        have hC4 := PS_C d4 hC2
        have hlt4 : ∀ i, i < n → υ i < n := fun i hi => (d3 i hi).2
        have hm4 : ∀ i, s ≤ i → i < e → ∀ c, c < 4 → mrow X3 (υ i) c = K (υ i) c := by
          intro i p1 p2 c hc
          obtain ⟨j, q1, q2, q3⟩ := d4.2.1 i p1 p2
          rw [q3, c3 j q1 q2 c hc, hG2.2.2]
        have hst : ∀ i j, s ≤ i → i < j → j < e → bet (K (υ i)) (K (υ j)) 4 := by
          intro i j p1 p2 p3
          have h5 : ¬ bet (K (υ j)) (K (υ i)) 4 := fun w => d5 i j p1 p2 p3 ((bet_congr (hm4 j (by omega) p3) (hm4 i p1 (by omega))).mpr w)
          exact (bet_tot (hK _ _ (hlt4 i (by omega)) (hlt4 j (by omega)) (fun w => by have := hinj4 i j (by omega) (by omega) w; omega))).resolve_right h5
        refine ⟨X4, υ, ?_, hf2.tr ((c2.mo (by decide)).tr (d2.mo (by decide))), d3, b4.tr d4, fun i p1 p2 => ?_, fun i j p1 p2 p3 p4 p5 => ?_, fun i j p1 p2 p3 p4 => ?_, fun z p1 p2 => ?_⟩
        · refine pre X4 ?_
          rw [hfl]
          refine ev_seg rfl ?_
          simp only [TE, sxs, sx, ldI, ldA, stI, stA, inc, gtF, ptF, ldX, stX, ldR, ldL, stL, dp1, dp2, Tm, kS0, kS1, kS2, kS3, kS4, kS5, kS6, kS7, kS8, kS9, kS10, kS11, kS12, kS13, kS14, kS15, kS16, kS17, kS18, kS19, kS20, kS21, kS22, kS23, kS24, kS25, kS26, kS27, kS28, kS30, kS31, kS32, kS33, kS34, kS35, kS36, kS37, kS38, kS39, kS40, kS41, kS42, kS43, kS51, kS52, kS53, List.getElem?_cons_zero, List.getElem?_cons_succ, List.set_cons_zero, List.set_cons_succ, List.length_cons, List.length_nil, List.drop_succ_cons, List.drop_zero, List.cons_append, List.nil_append, Option.toList_some, Option.toList_none, cz, ci2, true_and, and_true, and_self, true_or, or_true, nI_1, Nat.reduceAdd, Nat.reduceLT]
          refine ⟨fun h => absurd rfl h, fun _ => ?_⟩
          refine ev_seg rfl ?_
          simp only [TE, sxs, sx, ldI, ldA, stI, stA, inc, gtF, ptF, ldX, stX, ldR, ldL, stL, dp1, dp2, Tm, kS0, kS1, kS2, kS3, kS4, kS5, kS6, kS7, kS8, kS9, kS10, kS11, kS12, kS13, kS14, kS15, kS16, kS17, kS18, kS19, kS20, kS21, kS22, kS23, kS24, kS25, kS26, kS27, kS28, kS30, kS31, kS32, kS33, kS34, kS35, kS36, kS37, kS38, kS39, kS40, kS41, kS42, kS43, kS51, kS52, kS53, List.getElem?_cons_zero, List.getElem?_cons_succ, List.set_cons_zero, List.set_cons_succ, List.length_cons, List.length_nil, List.drop_succ_cons, List.drop_zero, List.cons_append, List.nil_append, Option.toList_some, Option.toList_none, cz, ci2, true_and, and_true, and_self, true_or, or_true, nI_1, Nat.reduceAdd, Nat.reduceLT]
          refine cu4 rfl rfl (by first | exact rfl | exact trivial) (c1) ?_
          refine ev_seg rfl ?_
          simp only [TE, sxs, sx, ldI, ldA, stI, stA, inc, gtF, ptF, ldX, stX, ldR, ldL, stL, dp1, dp2, Tm, kS0, kS1, kS2, kS3, kS4, kS5, kS6, kS7, kS8, kS9, kS10, kS11, kS12, kS13, kS14, kS15, kS16, kS17, kS18, kS19, kS20, kS21, kS22, kS23, kS24, kS25, kS26, kS27, kS28, kS30, kS31, kS32, kS33, kS34, kS35, kS36, kS37, kS38, kS39, kS40, kS41, kS42, kS43, kS51, kS52, kS53, List.getElem?_cons_zero, List.getElem?_cons_succ, List.set_cons_zero, List.set_cons_succ, List.length_cons, List.length_nil, List.drop_succ_cons, List.drop_zero, List.cons_append, List.nil_append, Option.toList_some, Option.toList_none, cz, ci2, true_and, and_true, and_self, true_or, or_true, nI_1, Nat.reduceAdd, Nat.reduceLT]
          refine cu5 rfl rfl (by first | exact rfl | exact trivial) (d1) ?_
          refine ev_seg rfl ?_
          simp only [TE, sxs, sx, ldI, ldA, stI, stA, inc, gtF, ptF, ldX, stX, ldR, ldL, stL, dp1, dp2, Tm, kS0, kS1, kS2, kS3, kS4, kS5, kS6, kS7, kS8, kS9, kS10, kS11, kS12, kS13, kS14, kS15, kS16, kS17, kS18, kS19, kS20, kS21, kS22, kS23, kS24, kS25, kS26, kS27, kS28, kS30, kS31, kS32, kS33, kS34, kS35, kS36, kS37, kS38, kS39, kS40, kS41, kS42, kS43, kS51, kS52, kS53, List.getElem?_cons_zero, List.getElem?_cons_succ, List.set_cons_zero, List.set_cons_succ, List.length_cons, List.length_nil, List.drop_succ_cons, List.drop_zero, List.cons_append, List.nil_append, Option.toList_some, Option.toList_none, cz, ci2, true_and, and_true, and_self, true_or, or_true, nI_1, Nat.reduceAdd, Nat.reduceLT]
        · have e9 : POS S n K (f + 1) C (υ i) = kap K 4 C n (υ i) := if_pos hAL
          rw [e9, kap_pos (fr := i) he hlt4 hinj4 hC4 p1 p2 (fun j q1 q2 => hst j i q1 q2 p2) (fun j q1 q2 => by
            by_cases hji : j = i
            · rw [hji]; exact bet_irr _ _
            · exact bet_asym (hst i j p1 (by omega) q2))]
          omega
        · have h3 : fa (k3 S n C (υ i)) (k3 S n C (υ j)) 3 = 3 := ALb_iff.mp hAL _ _ (hlt4 i (by omega)) (hlt4 j (by omega)) ((hC4 _ (hlt4 i (by omega))).mpr ⟨i, p1, p2, rfl⟩) ((hC4 _ (hlt4 j (by omega))).mpr ⟨j, p3, p4, rfl⟩)
          have e9 : RUL S n K (f + 1) C (υ i) (υ j) = 4 + fa (K (υ i)) (K (υ j)) 4 := by
            show (if _ then _ else if _ then _ else _) = _
            rw [if_neg (by omega), if_pos hAL]
          have h4 : fa (mrow X3 (υ i)) (mrow X3 (υ j)) 4 = fa (K (υ i)) (K (υ j)) 4 := fa_congr (hm4 i p1 p2) (hm4 j p3 p4)
          have h6 : fa (K (υ i)) (K (υ j)) 4 < 4 := by
            have := fa_le (K (υ i)) (K (υ j)) 4
            have := hK _ _ (hlt4 i (by omega)) (hlt4 j (by omega)) (fun w => p5 (hinj4 i j (by omega) (by omega) w))
            omega
          rw [e9, (d6 i j (by omega) (by omega) p5).1 ⟨p1, p2, p3, p4, by rw [h4]; exact h6⟩, h4]
        · rw [(d6 i j p1 p2 p3).2 (fun w => p4 ⟨w.1, w.2.1, w.2.2.1, w.2.2.2.1⟩)]
          show X3.1 14 0 _ _ = _
          rw [c2.at 14 (by decide)]
          by_cases hi : s ≤ i ∧ i < e
          · obtain ⟨i', q1, q2, q3⟩ := d4.2.1 i hi.1 hi.2
            rw [q3, d4.1 j (by omega)]
            exact hru1 i' j (by omega) p2 (by omega) (by omega)
          · by_cases hj : s ≤ j ∧ j < e
            · obtain ⟨j', q1, q2, q3⟩ := d4.2.1 j hj.1 hj.2
              rw [q3, d4.1 i (by omega)]
              exact hru1 i j' p1 (by omega) (by omega) (by omega)
            · rw [d4.1 i (by omega), d4.1 j (by omega)]
              exact hru1 i j p1 p2 p3 p4
        · rw [mrow_fr d2 (by decide), c4 z (by omega) (fun i q1 q2 q3 => by
            have : C z = true := (hC2 z p1).mpr ⟨i, q1, q2, q3⟩
            rw [p2] at this
            cases this)]
          exact hout z p1 p2
      · -- runs
        have hAL : ALb S n C = false := by
          cases h9 : ALb S n C with
          | false => rfl
          | true => exact absurd (ALb_iff.mp h9 _ _ o2 o4 ((hC2 _ o2).mpr ⟨s, Nat.le_refl _, by omega, rfl⟩) ((hC2 _ o4).mpr ⟨e - 1, by omega, by omega, rfl⟩)) hfl
        obtain ⟨Z, υ, g1, g2, g3, g4, g5, g6, g7, g8⟩ := settle_runs (σ0 := σ) (X0 := X) IH hn he hsz hdp (by omega) hG hinj hC hAL (e - s) s (s + 1) X2 τ (by omega) (Nat.le_refl _) (by omega) hse (fun w => by omega) hf2 b3 b4 hmk2 hsrt
          (fun i p1 p2 p3 => by rw [show i = s by omega]; exact fa_all.mpr (fun _ _ => rfl))
          (fun i j p1 p2 => absurd p2 (by omega)) (fun i p1 p2 => absurd p2 (by omega)) (fun i j p1 p2 p3 p4 p5 p6 => absurd p6 (by omega))
          (fun i j p1 p2 p3 p4 p5 p6 => by
            have h9 := hfa i j p1 p2 p3 p4
            rw [(b6 i j (by omega) (by omega) p5).1 ⟨p1, p2, p3, p4, by rw [h9]; exact p6⟩, h9])
          hru1 hout
        refine ⟨Z, υ, ?_, g2, g3, g4, g5, g6, g7, g8⟩
        refine pre Z ?_
        refine ev_seg rfl ?_
        simp only [TE, sxs, sx, ldI, ldA, stI, stA, inc, gtF, ptF, ldX, stX, ldR, ldL, stL, dp1, dp2, Tm, kS0, kS1, kS2, kS3, kS4, kS5, kS6, kS7, kS8, kS9, kS10, kS11, kS12, kS13, kS14, kS15, kS16, kS17, kS18, kS19, kS20, kS21, kS22, kS23, kS24, kS25, kS26, kS27, kS28, kS30, kS31, kS32, kS33, kS34, kS35, kS36, kS37, kS38, kS39, kS40, kS41, kS42, kS43, kS51, kS52, kS53, List.getElem?_cons_zero, List.getElem?_cons_succ, List.set_cons_zero, List.set_cons_succ, List.length_cons, List.length_nil, List.drop_succ_cons, List.drop_zero, List.cons_append, List.nil_append, Option.toList_some, Option.toList_none, cz, ci2, true_and, and_true, and_self, true_or, or_true, nI_1, Nat.reduceAdd, Nat.reduceLT]
        refine ⟨fun _ => ?_, fun h => absurd (nI_inj (by omega) (by decide) (Classical.not_not.mp h)) hfl⟩
        refine ev_seg rfl ?_
        simp only [TE, sxs, sx, ldI, ldA, stI, stA, inc, gtF, ptF, ldX, stX, ldR, ldL, stL, dp1, dp2, Tm, kS0, kS1, kS2, kS3, kS4, kS5, kS6, kS7, kS8, kS9, kS10, kS11, kS12, kS13, kS14, kS15, kS16, kS17, kS18, kS19, kS20, kS21, kS22, kS23, kS24, kS25, kS26, kS27, kS28, kS30, kS31, kS32, kS33, kS34, kS35, kS36, kS37, kS38, kS39, kS40, kS41, kS42, kS43, kS51, kS52, kS53, List.getElem?_cons_zero, List.getElem?_cons_succ, List.set_cons_zero, List.set_cons_succ, List.length_cons, List.length_nil, List.drop_succ_cons, List.drop_zero, List.cons_append, List.nil_append, Option.toList_some, Option.toList_none, cz, ci2, true_and, and_true, and_self, true_or, or_true, nI_1, Nat.reduceAdd, Nat.reduceLT]
        exact g1
end Stl
