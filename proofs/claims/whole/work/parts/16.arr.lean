/-! arranging: sorted, and the rules noted -/
section Arr
variable {sc : SC} {d : Nat} {X : XT}
abbrev RU (X : XT) (a b : Nat) : Int32 := X.1 14 0 (nI a) (nI b)
/-- two teams' rule noted, where they are apart -/
noncomputable def ntX (X : XT) (a b m fr : Nat) : XT := if fa (mrow X a) (mrow X b) m < m then (xs (xs X.1 14 0 (nI a) (nI b) (nI (fr + fa (mrow X a) (mrow X b) m))) 14 0 (nI b) (nI a) (nI (fr + fa (mrow X a) (mrow X b) m)), X.2) else X
theorem s_noteRule {a b m fr : Nat} (ha : a < 5) (hb : b < 5) (hm : m ≤ 4) : Ev sc (d + 1) 52 0 (ent 52 [vR 8 0 0, vI (nI a), vI (nI b), vI (nI m), vI (nI fr)]) [] X (.inl none) (ntX X a b m fr) 0 := by
  rw [en52]
  have v1 : vp_in (nI a) 5 := vpn ha (by decide)
  have v2 : vp_in (nI b) 5 := vpn hb (by decide)
  refine ev_seg rfl ?_
  simp only [TE, sxs, sx, ldI, ldA, stI, stA, inc, gtF, ptF, ldX, stX, ldR, ldL, stL, dp1, dp2, Tm, kS0, kS1, kS2, kS3, kS4, kS5, kS6, kS7, kS8, kS9, kS10, kS11, kS12, kS13, kS14, kS15, kS16, kS17, kS18, kS19, kS20, kS21, kS22, kS23, kS24, kS25, kS26, kS27, kS28, kS30, kS31, kS32, kS33, kS34, kS35, kS36, kS37, kS38, kS39, kS40, kS41, kS42, kS43, kS51, kS52, kS53, List.getElem?_cons_zero, List.getElem?_cons_succ, List.set_cons_zero, List.set_cons_succ, List.length_cons, List.length_nil, List.drop_succ_cons, List.drop_zero, List.cons_append, List.nil_append, Option.toList_some, Option.toList_none, cz, ci2, true_and, and_true, and_self, true_or, or_true, nI_1, Nat.reduceAdd, Nat.reduceLT]
  refine cv4 rfl rfl (by first | exact rfl | exact trivial) (s_firstApart9 v1 v2 hm) ?_
  have hle := fa_le (mrow X a) (mrow X b) m
  have e0 : fa (fun c => X.1 11 0 (nI a) (nI c)) (fun c => X.1 11 0 (nI b) (nI c)) m = fa (mrow X a) (mrow X b) m := rfl
  refine ev_seg rfl ?_
  simp only [TE, sxs, sx, ldI, ldA, stI, stA, inc, gtF, ptF, ldX, stX, ldR, ldL, stL, dp1, dp2, Tm, kS0, kS1, kS2, kS3, kS4, kS5, kS6, kS7, kS8, kS9, kS10, kS11, kS12, kS13, kS14, kS15, kS16, kS17, kS18, kS19, kS20, kS21, kS22, kS23, kS24, kS25, kS26, kS27, kS28, kS30, kS31, kS32, kS33, kS34, kS35, kS36, kS37, kS38, kS39, kS40, kS41, kS42, kS43, kS51, kS52, kS53, List.getElem?_cons_zero, List.getElem?_cons_succ, List.set_cons_zero, List.set_cons_succ, List.length_cons, List.length_nil, List.drop_succ_cons, List.drop_zero, List.cons_append, List.nil_append, Option.toList_some, Option.toList_none, cz, ci2, true_and, and_true, and_self, true_or, or_true, nI_1, Nat.reduceAdd, Nat.reduceLT, e0]
  refine ⟨fun h => ?_, fun h => ?_⟩
  · have hge : ¬ fa (mrow X a) (mrow X b) m < m := fun q => nle q (by omega) h
    rw [show ntX X a b m fr = X from if_neg hge]
    refine ev_seg rfl ?_
    simp only [TE, sxs, sx, ldI, ldA, stI, stA, inc, gtF, ptF, ldX, stX, ldR, ldL, stL, dp1, dp2, Tm, kS0, kS1, kS2, kS3, kS4, kS5, kS6, kS7, kS8, kS9, kS10, kS11, kS12, kS13, kS14, kS15, kS16, kS17, kS18, kS19, kS20, kS21, kS22, kS23, kS24, kS25, kS26, kS27, kS28, kS30, kS31, kS32, kS33, kS34, kS35, kS36, kS37, kS38, kS39, kS40, kS41, kS42, kS43, kS51, kS52, kS53, List.getElem?_cons_zero, List.getElem?_cons_succ, List.set_cons_zero, List.set_cons_succ, List.length_cons, List.length_nil, List.drop_succ_cons, List.drop_zero, List.cons_append, List.nil_append, Option.toList_some, Option.toList_none, cz, ci2, true_and, and_true, and_self, true_or, or_true, nI_1, Nat.reduceAdd, Nat.reduceLT]
  · have hlt : fa (mrow X a) (mrow X b) m < m := by
      rcases Nat.lt_or_ge (fa (mrow X a) (mrow X b) m) m with q | q
      · exact q
      · exact absurd (nleI q (by omega)) h
    rw [show ntX X a b m fr = _ from if_pos hlt]
    refine ev_seg rfl ?_
    simp only [TE, sxs, sx, ldI, ldA, stI, stA, inc, gtF, ptF, ldX, stX, ldR, ldL, stL, dp1, dp2, Tm, kS0, kS1, kS2, kS3, kS4, kS5, kS6, kS7, kS8, kS9, kS10, kS11, kS12, kS13, kS14, kS15, kS16, kS17, kS18, kS19, kS20, kS21, kS22, kS23, kS24, kS25, kS26, kS27, kS28, kS30, kS31, kS32, kS33, kS34, kS35, kS36, kS37, kS38, kS39, kS40, kS41, kS42, kS43, kS51, kS52, kS53, List.getElem?_cons_zero, List.getElem?_cons_succ, List.set_cons_zero, List.set_cons_succ, List.length_cons, List.length_nil, List.drop_succ_cons, List.drop_zero, List.cons_append, List.nil_append, Option.toList_some, Option.toList_none, cz, ci2, true_and, and_true, and_self, true_or, or_true, nI_1, Nat.reduceAdd, Nat.reduceLT]
    refine ⟨(by first | assumption | (and_intros <;> first | assumption | trivial | decide)), ?_⟩
    refine ev_seg rfl ?_
    simp only [TE, sxs, sx, ldI, ldA, stI, stA, inc, gtF, ptF, ldX, stX, ldR, ldL, stL, dp1, dp2, Tm, kS0, kS1, kS2, kS3, kS4, kS5, kS6, kS7, kS8, kS9, kS10, kS11, kS12, kS13, kS14, kS15, kS16, kS17, kS18, kS19, kS20, kS21, kS22, kS23, kS24, kS25, kS26, kS27, kS28, kS30, kS31, kS32, kS33, kS34, kS35, kS36, kS37, kS38, kS39, kS40, kS41, kS42, kS43, kS51, kS52, kS53, List.getElem?_cons_zero, List.getElem?_cons_succ, List.set_cons_zero, List.set_cons_succ, List.length_cons, List.length_nil, List.drop_succ_cons, List.drop_zero, List.cons_append, List.nil_append, Option.toList_some, Option.toList_none, cz, ci2, true_and, and_true, and_self, true_or, or_true, nI_1, Nat.reduceAdd, Nat.reduceLT, nI_add]
theorem nt_fr (X : XT) (a b m fr : Nat) : Fr [14] X (ntX X a b m fr) := by
  unfold ntX
  split
  · exact (Fr.xs X 0 _ _ _ (List.mem_singleton.mpr rfl)).tr (Fr.xs _ 0 _ _ _ (List.mem_singleton.mpr rfl))
  · exact Fr.rf _ _
theorem nt_ru (X : XT) {a b m fr x y : Nat} (ha : a < 5) (hb : b < 5) (hx : x < 5) (hy : y < 5) : RU (ntX X a b m fr) x y = if ((x = a ∧ y = b) ∨ (x = b ∧ y = a)) ∧ fa (mrow X a) (mrow X b) m < m then nI (fr + fa (mrow X a) (mrow X b) m) else RU X x y := by
  unfold ntX
  by_cases h : fa (mrow X a) (mrow X b) m < m
  · rw [if_pos h]
    have inj : ∀ {p q : Nat}, p < 5 → q < 5 → (nI p = nI q ↔ p = q) := fun hp hq => ⟨fun e => nI_inj (by omega) (by omega) e, fun e => by rw [e]⟩
    show (if (14 = 14 ∧ (0 : Int32) = 0 ∧ nI x = nI b ∧ nI y = nI a) then _ else if (14 = 14 ∧ (0 : Int32) = 0 ∧ nI x = nI a ∧ nI y = nI b) then _ else X.1 14 0 (nI x) (nI y)) = _
    simp only [inj hx hb, inj hy ha, inj hx ha, inj hy hb, true_and, h, and_true]
    by_cases h1 : x = b ∧ y = a
    · rw [if_pos h1, if_pos (Or.inr h1)]
    · rw [if_neg h1]
      by_cases h2 : x = a ∧ y = b
      · rw [if_pos h2, if_pos (Or.inl h2)]
      · rw [if_neg h2, if_neg (fun q => q.elim h2 h1)]
  · rw [if_neg h, if_neg (fun q => h q.2)]
/-- pairs whose rule is noted when the loops stand at p, q -/
def prd (s e p q i j : Nat) : Prop := s ≤ i ∧ i < e ∧ s ≤ j ∧ j < e ∧ i ≠ j ∧ ((i < p ∨ j < p) ∨ (i = p ∧ j < q) ∨ (j = p ∧ i < q))
theorem arr_rules {s e m n fr : Nat} {σ : Nat → Nat} (hn : n ≤ 5) (he : e ≤ n) (hm : m ≤ 4) (hinj : ∀ i j, i < n → j < n → σ i = σ j → i = j) (hO : OrdH X n σ) : ∀ p, p ≤ e → s ≤ p → ∀ (X1 : XT) (z6 z7 : AV), Fr [14] X X1 →
    (∀ i j, i < n → j < n → i ≠ j → ((prd s e p 0 i j ∧ fa (mrow X (σ i)) (mrow X (σ j)) m < m) → RU X1 (σ i) (σ j) = nI (fr + fa (mrow X (σ i)) (mrow X (σ j)) m)) ∧ (¬ (prd s e p 0 i j ∧ fa (mrow X (σ i)) (mrow X (σ j)) m < m) → RU X1 (σ i) (σ j) = RU X (σ i) (σ j))) →
    ∃ Z, Fr [14] X Z ∧ Ev sc (d + 2) 51 9 (aL s e m (nI fr) (vI (nI p)) z6 z7) [] X1 (.inl none) Z 0 ∧
      ∀ i j, i < n → j < n → i ≠ j → ((s ≤ i ∧ i < e ∧ s ≤ j ∧ j < e ∧ fa (mrow X (σ i)) (mrow X (σ j)) m < m) → RU Z (σ i) (σ j) = nI (fr + fa (mrow X (σ i)) (mrow X (σ j)) m)) ∧ (¬ (s ≤ i ∧ i < e ∧ s ≤ j ∧ j < e ∧ fa (mrow X (σ i)) (mrow X (σ j)) m < m) → RU Z (σ i) (σ j) = RU X (σ i) (σ j)) := by
  apply loop_up
  · intro hsp X1 z6 z7 hf hI
    refine ⟨X1, hf, ?_, fun i j hi hj hij => ⟨fun h => (hI i j hi hj hij).1 ⟨⟨h.1, h.2.1, h.2.2.1, h.2.2.2.1, hij, Or.inl (by omega)⟩, h.2.2.2.2⟩, fun h => (hI i j hi hj hij).2 (fun q => h ⟨q.1.1, q.1.2.1, q.1.2.2.1, q.1.2.2.2.1, q.2⟩)⟩⟩
    refine ev_seg rfl ?_
    simp only [TE, sxs, sx, ldI, ldA, stI, stA, inc, gtF, ptF, ldX, stX, ldR, ldL, stL, dp1, dp2, Tm, kS0, kS1, kS2, kS3, kS4, kS5, kS6, kS7, kS8, kS9, kS10, kS11, kS12, kS13, kS14, kS15, kS16, kS17, kS18, kS19, kS20, kS21, kS22, kS23, kS24, kS25, kS26, kS27, kS28, kS30, kS31, kS32, kS33, kS34, kS35, kS36, kS37, kS38, kS39, kS40, kS41, kS42, kS43, kS51, kS52, kS53, List.getElem?_cons_zero, List.getElem?_cons_succ, List.set_cons_zero, List.set_cons_succ, List.length_cons, List.length_nil, List.drop_succ_cons, List.drop_zero, List.cons_append, List.nil_append, Option.toList_some, Option.toList_none, cz, ci2, true_and, and_true, and_self, true_or, or_true, nI_1, Nat.reduceAdd, Nat.reduceLT]
    refine ⟨fun _ => ?_, fun h => absurd (nleI (Nat.le_refl _) (by omega)) h⟩
    refine ev_seg rfl ?_
    simp only [TE, sxs, sx, ldI, ldA, stI, stA, inc, gtF, ptF, ldX, stX, ldR, ldL, stL, dp1, dp2, Tm, kS0, kS1, kS2, kS3, kS4, kS5, kS6, kS7, kS8, kS9, kS10, kS11, kS12, kS13, kS14, kS15, kS16, kS17, kS18, kS19, kS20, kS21, kS22, kS23, kS24, kS25, kS26, kS27, kS28, kS30, kS31, kS32, kS33, kS34, kS35, kS36, kS37, kS38, kS39, kS40, kS41, kS42, kS43, kS51, kS52, kS53, List.getElem?_cons_zero, List.getElem?_cons_succ, List.set_cons_zero, List.set_cons_succ, List.length_cons, List.length_nil, List.drop_succ_cons, List.drop_zero, List.cons_append, List.nil_append, Option.toList_some, Option.toList_none, cz, ci2, true_and, and_true, and_self, true_or, or_true, nI_1, Nat.reduceAdd, Nat.reduceLT]
  · intro p hp ihp hsp X1 z6 z7 hf hI
    have inner : ∀ q, q ≤ e → p + 1 ≤ q → ∀ (X2 : XT) (z7 : AV), Fr [14] X X2 →
        (∀ i j, i < n → j < n → i ≠ j → ((prd s e p q i j ∧ fa (mrow X (σ i)) (mrow X (σ j)) m < m) → RU X2 (σ i) (σ j) = nI (fr + fa (mrow X (σ i)) (mrow X (σ j)) m)) ∧ (¬ (prd s e p q i j ∧ fa (mrow X (σ i)) (mrow X (σ j)) m < m) → RU X2 (σ i) (σ j) = RU X (σ i) (σ j))) →
        ∃ Z, Fr [14] X Z ∧ Ev sc (d + 2) 51 11 (aL s e m (nI fr) (vI (nI p)) (vI (nI q)) z7) [] X2 (.inl none) Z 0 ∧
          ∀ i j, i < n → j < n → i ≠ j → ((s ≤ i ∧ i < e ∧ s ≤ j ∧ j < e ∧ fa (mrow X (σ i)) (mrow X (σ j)) m < m) → RU Z (σ i) (σ j) = nI (fr + fa (mrow X (σ i)) (mrow X (σ j)) m)) ∧ (¬ (s ≤ i ∧ i < e ∧ s ≤ j ∧ j < e ∧ fa (mrow X (σ i)) (mrow X (σ j)) m < m) → RU Z (σ i) (σ j) = RU X (σ i) (σ j)) := by
      apply loop_up
      · intro _ X2 z7 hf2 hI2
        obtain ⟨Z, g1, g2, g3⟩ := ihp (by omega) X2 (vI (nI e)) z7 hf2 (fun i j hi hj hij => ⟨fun h => (hI2 i j hi hj hij).1 ⟨⟨h.1.1, h.1.2.1, h.1.2.2.1, h.1.2.2.2.1, hij, by have := h.1; unfold prd at this; omega⟩, h.2⟩, fun h => (hI2 i j hi hj hij).2 (fun q => h ⟨⟨q.1.1, q.1.2.1, q.1.2.2.1, q.1.2.2.2.1, hij, by have := q.1; unfold prd at this; omega⟩, q.2⟩)⟩)
        refine ⟨Z, g1, ?_, g3⟩
        refine ev_seg rfl ?_
        simp only [TE, sxs, sx, ldI, ldA, stI, stA, inc, gtF, ptF, ldX, stX, ldR, ldL, stL, dp1, dp2, Tm, kS0, kS1, kS2, kS3, kS4, kS5, kS6, kS7, kS8, kS9, kS10, kS11, kS12, kS13, kS14, kS15, kS16, kS17, kS18, kS19, kS20, kS21, kS22, kS23, kS24, kS25, kS26, kS27, kS28, kS30, kS31, kS32, kS33, kS34, kS35, kS36, kS37, kS38, kS39, kS40, kS41, kS42, kS43, kS51, kS52, kS53, List.getElem?_cons_zero, List.getElem?_cons_succ, List.set_cons_zero, List.set_cons_succ, List.length_cons, List.length_nil, List.drop_succ_cons, List.drop_zero, List.cons_append, List.nil_append, Option.toList_some, Option.toList_none, cz, ci2, true_and, and_true, and_self, true_or, or_true, nI_1, Nat.reduceAdd, Nat.reduceLT]
        refine ⟨fun _ => ?_, fun h => absurd (nleI (Nat.le_refl _) (by omega)) h⟩
        refine ev_seg rfl ?_
        simp only [TE, sxs, sx, ldI, ldA, stI, stA, inc, gtF, ptF, ldX, stX, ldR, ldL, stL, dp1, dp2, Tm, kS0, kS1, kS2, kS3, kS4, kS5, kS6, kS7, kS8, kS9, kS10, kS11, kS12, kS13, kS14, kS15, kS16, kS17, kS18, kS19, kS20, kS21, kS22, kS23, kS24, kS25, kS26, kS27, kS28, kS30, kS31, kS32, kS33, kS34, kS35, kS36, kS37, kS38, kS39, kS40, kS41, kS42, kS43, kS51, kS52, kS53, List.getElem?_cons_zero, List.getElem?_cons_succ, List.set_cons_zero, List.set_cons_succ, List.length_cons, List.length_nil, List.drop_succ_cons, List.drop_zero, List.cons_append, List.nil_append, Option.toList_some, Option.toList_none, cz, ci2, true_and, and_true, and_self, true_or, or_true, nI_1, Nat.reduceAdd, Nat.reduceLT]
        exact g2
      · intro q hq ihq hpq X2 z7 hf2 hI2
        obtain ⟨o1, o2⟩ := hO p (by omega)
        obtain ⟨o3, o4⟩ := hO q (by omega)
        have hmr : ∀ w, mrow X2 w = mrow X w := by
          intro w
          funext c
          exact hf2.at 11 (by decide) _ _ _
        have r1 : X2.1 12 0 0 (nI p) = nI (σ p) := by rw [hf2.at 12 (by decide)]; exact o1
        have r2 : X2.1 12 0 0 (nI q) = nI (σ q) := by rw [hf2.at 12 (by decide)]; exact o3
        have hnr : ∀ i j, i < n → j < n → RU (ntX X2 (σ p) (σ q) m fr) (σ i) (σ j) = if ((σ i = σ p ∧ σ j = σ q) ∨ (σ i = σ q ∧ σ j = σ p)) ∧ fa (mrow X (σ p)) (mrow X (σ q)) m < m then nI (fr + fa (mrow X (σ p)) (mrow X (σ q)) m) else RU X2 (σ i) (σ j) := by
          intro i j hi hj
          have h9 := nt_ru X2 (a := σ p) (b := σ q) (m := m) (fr := fr) (x := σ i) (y := σ j) (by omega) (by omega) (by have := (hO i hi).2; omega) (by have := (hO j hj).2; omega)
          rwa [hmr, hmr] at h9
        obtain ⟨Z, g1, g2, g3⟩ := ihq (by omega) (ntX X2 (σ p) (σ q) m fr) z7 (hf2.tr (nt_fr _ _ _ _ _)) (fun i j hi hj hij => by
          have ip : (σ i = σ p ↔ i = p) := ⟨fun w => hinj i p hi (by omega) w, fun w => by rw [w]⟩
          have iq : (σ i = σ q ↔ i = q) := ⟨fun w => hinj i q hi (by omega) w, fun w => by rw [w]⟩
          have jp : (σ j = σ p ↔ j = p) := ⟨fun w => hinj j p hj (by omega) w, fun w => by rw [w]⟩
          have jq : (σ j = σ q ↔ j = q) := ⟨fun w => hinj j q hj (by omega) w, fun w => by rw [w]⟩
          have hr := hnr i j hi hj
          simp only [ip, iq, jp, jq] at hr
          obtain ⟨c1, c2⟩ := hI2 i j hi hj hij
          have hpr : prd s e p (q + 1) i j ↔ prd s e p q i j ∨ ((i = p ∧ j = q) ∨ (i = q ∧ j = p)) := by
            unfold prd
            constructor
            · rintro ⟨w1, w2, w3, w4, w5, w6⟩
              by_cases h9 : (i = p ∧ j = q) ∨ (i = q ∧ j = p)
              · exact Or.inr h9
              · exact Or.inl ⟨w1, w2, w3, w4, w5, by omega⟩
            · rintro (⟨w1, w2, w3, w4, w5, w6⟩ | (⟨rfl, rfl⟩ | ⟨rfl, rfl⟩))
              · exact ⟨w1, w2, w3, w4, w5, by omega⟩
              · exact ⟨by omega, by omega, by omega, by omega, by omega, by omega⟩
              · exact ⟨by omega, by omega, by omega, by omega, by omega, by omega⟩
          have hsym : ((i = p ∧ j = q) ∨ (i = q ∧ j = p)) → fa (mrow X (σ i)) (mrow X (σ j)) m = fa (mrow X (σ p)) (mrow X (σ q)) m := by
            rintro (⟨rfl, rfl⟩ | ⟨rfl, rfl⟩)
            · rfl
            · exact fa_comm _ _ _
          refine ⟨fun h => ?_, fun h => ?_⟩
          · rw [hr]
            by_cases h9 : (i = p ∧ j = q) ∨ (i = q ∧ j = p)
            · rw [if_pos ⟨h9, by rw [← hsym h9]; exact h.2⟩, hsym h9]
            · rw [if_neg (fun w => h9 w.1)]
              exact c1 ⟨(hpr.mp h.1).resolve_right h9, h.2⟩
          · rw [hr]
            by_cases h9 : (i = p ∧ j = q) ∨ (i = q ∧ j = p)
            · rw [if_neg (fun w => h ⟨hpr.mpr (Or.inr h9), by rw [hsym h9]; exact w.2⟩)]
              exact c2 (fun w => h ⟨hpr.mpr (Or.inl w.1), w.2⟩)
            · rw [if_neg (fun w => h9 w.1)]
              exact c2 (fun w => h ⟨hpr.mpr (Or.inl w.1), w.2⟩))
        refine ⟨Z, g1, ?_, g3⟩
        have vp : vp_in (nI p) 5 := vpn (by omega) (by decide)
        have vq : vp_in (nI q) 5 := vpn (by omega) (by decide)
        refine ev_seg rfl ?_
        simp only [TE, sxs, sx, ldI, ldA, stI, stA, inc, gtF, ptF, ldX, stX, ldR, ldL, stL, dp1, dp2, Tm, kS0, kS1, kS2, kS3, kS4, kS5, kS6, kS7, kS8, kS9, kS10, kS11, kS12, kS13, kS14, kS15, kS16, kS17, kS18, kS19, kS20, kS21, kS22, kS23, kS24, kS25, kS26, kS27, kS28, kS30, kS31, kS32, kS33, kS34, kS35, kS36, kS37, kS38, kS39, kS40, kS41, kS42, kS43, kS51, kS52, kS53, List.getElem?_cons_zero, List.getElem?_cons_succ, List.set_cons_zero, List.set_cons_succ, List.length_cons, List.length_nil, List.drop_succ_cons, List.drop_zero, List.cons_append, List.nil_append, Option.toList_some, Option.toList_none, cz, ci2, true_and, and_true, and_self, true_or, or_true, nI_1, Nat.reduceAdd, Nat.reduceLT]
        refine ⟨fun h => absurd h (nle hq (by omega)), fun _ => ?_⟩
        refine ev_seg rfl ?_
        simp only [TE, sxs, sx, ldI, ldA, stI, stA, inc, gtF, ptF, ldX, stX, ldR, ldL, stL, dp1, dp2, Tm, kS0, kS1, kS2, kS3, kS4, kS5, kS6, kS7, kS8, kS9, kS10, kS11, kS12, kS13, kS14, kS15, kS16, kS17, kS18, kS19, kS20, kS21, kS22, kS23, kS24, kS25, kS26, kS27, kS28, kS30, kS31, kS32, kS33, kS34, kS35, kS36, kS37, kS38, kS39, kS40, kS41, kS42, kS43, kS51, kS52, kS53, List.getElem?_cons_zero, List.getElem?_cons_succ, List.set_cons_zero, List.set_cons_succ, List.length_cons, List.length_nil, List.drop_succ_cons, List.drop_zero, List.cons_append, List.nil_append, Option.toList_some, Option.toList_none, cz, ci2, true_and, and_true, and_self, true_or, or_true, nI_1, Nat.reduceAdd, Nat.reduceLT, r1, r2]
        refine ⟨(by first | assumption | (and_intros <;> first | assumption | trivial | decide)), cu5 rfl rfl (by first | exact rfl | exact trivial) (s_noteRule (by omega) (by omega) hm) ?_⟩
        refine ev_seg rfl ?_
        simp only [TE, sxs, sx, ldI, ldA, stI, stA, inc, gtF, ptF, ldX, stX, ldR, ldL, stL, dp1, dp2, Tm, kS0, kS1, kS2, kS3, kS4, kS5, kS6, kS7, kS8, kS9, kS10, kS11, kS12, kS13, kS14, kS15, kS16, kS17, kS18, kS19, kS20, kS21, kS22, kS23, kS24, kS25, kS26, kS27, kS28, kS30, kS31, kS32, kS33, kS34, kS35, kS36, kS37, kS38, kS39, kS40, kS41, kS42, kS43, kS51, kS52, kS53, List.getElem?_cons_zero, List.getElem?_cons_succ, List.set_cons_zero, List.set_cons_succ, List.length_cons, List.length_nil, List.drop_succ_cons, List.drop_zero, List.cons_append, List.nil_append, Option.toList_some, Option.toList_none, cz, ci2, true_and, and_true, and_self, true_or, or_true, nI_1, Nat.reduceAdd, Nat.reduceLT]
        exact g2
    obtain ⟨Z, g1, g2, g3⟩ := inner (p + 1) (by omega) (Nat.le_refl _) X1 z7 hf (fun i j hi hj hij => ⟨fun h => (hI i j hi hj hij).1 ⟨⟨h.1.1, h.1.2.1, h.1.2.2.1, h.1.2.2.2.1, hij, by have := h.1; unfold prd at this; omega⟩, h.2⟩, fun h => (hI i j hi hj hij).2 (fun q => h ⟨⟨q.1.1, q.1.2.1, q.1.2.2.1, q.1.2.2.2.1, hij, by have := q.1; unfold prd at this; omega⟩, q.2⟩)⟩)
    refine ⟨Z, g1, ?_, g3⟩
    refine ev_seg rfl ?_
    simp only [TE, sxs, sx, ldI, ldA, stI, stA, inc, gtF, ptF, ldX, stX, ldR, ldL, stL, dp1, dp2, Tm, kS0, kS1, kS2, kS3, kS4, kS5, kS6, kS7, kS8, kS9, kS10, kS11, kS12, kS13, kS14, kS15, kS16, kS17, kS18, kS19, kS20, kS21, kS22, kS23, kS24, kS25, kS26, kS27, kS28, kS30, kS31, kS32, kS33, kS34, kS35, kS36, kS37, kS38, kS39, kS40, kS41, kS42, kS43, kS51, kS52, kS53, List.getElem?_cons_zero, List.getElem?_cons_succ, List.set_cons_zero, List.set_cons_succ, List.length_cons, List.length_nil, List.drop_succ_cons, List.drop_zero, List.cons_append, List.nil_append, Option.toList_some, Option.toList_none, cz, ci2, true_and, and_true, and_self, true_or, or_true, nI_1, Nat.reduceAdd, Nat.reduceLT]
    refine ⟨fun h => absurd h (nle hp (by omega)), fun _ => ?_⟩
    refine ev_seg rfl ?_
    simp only [TE, sxs, sx, ldI, ldA, stI, stA, inc, gtF, ptF, ldX, stX, ldR, ldL, stL, dp1, dp2, Tm, kS0, kS1, kS2, kS3, kS4, kS5, kS6, kS7, kS8, kS9, kS10, kS11, kS12, kS13, kS14, kS15, kS16, kS17, kS18, kS19, kS20, kS21, kS22, kS23, kS24, kS25, kS26, kS27, kS28, kS30, kS31, kS32, kS33, kS34, kS35, kS36, kS37, kS38, kS39, kS40, kS41, kS42, kS43, kS51, kS52, kS53, List.getElem?_cons_zero, List.getElem?_cons_succ, List.set_cons_zero, List.set_cons_succ, List.length_cons, List.length_nil, List.drop_succ_cons, List.drop_zero, List.cons_append, List.nil_append, Option.toList_some, Option.toList_none, cz, ci2, true_and, and_true, and_self, true_or, or_true, nI_1, Nat.reduceAdd, Nat.reduceLT]
    exact g2
/-- the whole: a stretch is sorted by m marks, and the rules noted -/
theorem s_arrange {s e m n fr : Nat} {σ : Nat → Nat} (hn : n ≤ 5) (hse : s < e) (he : e ≤ n) (hm : m ≤ 4) (hinj : ∀ i j, i < n → j < n → σ i = σ j → i = j) (hO : OrdH X n σ) :
    ∃ (Z : XT) (τ : Nat → Nat), Ev sc (d + 2) 51 0 (ent 51 [vR 8 0 0, vI (nI s), vI (nI e), vI (nI m), vI (nI fr)]) [] X (.inl none) Z 0 ∧ Fr [12, 14] X Z ∧ OrdH Z n τ ∧ PS s e σ τ ∧ Srd X m s e τ ∧
      ∀ i j, i < n → j < n → i ≠ j → ((s ≤ i ∧ i < e ∧ s ≤ j ∧ j < e ∧ fa (mrow X (τ i)) (mrow X (τ j)) m < m) → RU Z (τ i) (τ j) = nI (fr + fa (mrow X (τ i)) (mrow X (τ j)) m)) ∧ (¬ (s ≤ i ∧ i < e ∧ s ≤ j ∧ j < e ∧ fa (mrow X (τ i)) (mrow X (τ j)) m < m) → RU Z (τ i) (τ j) = RU X (τ i) (τ j)) := by
  obtain ⟨X1, τ, y5, y6, y7, a1, a2, a3, a4, a5⟩ := arr_sort (sc := sc) (d := d) (fr := nI fr) (s := s) hn he hm (e - (s + 1)) (s + 1) X σ av0 av0 (by omega) (by omega) hO (fun i j h1 h2 h3 => absurd h3 (by omega))
  have hmr : ∀ w, mrow X1 w = mrow X w := by
    intro w
    funext c
    exact a3.at 11 (by decide) _ _ _
  have hru : ∀ a b, RU X1 a b = RU X a b := fun a b => a3.at 14 (by decide) _ _ _
  have hinj1 := a2.2.2.2 n he hinj
  obtain ⟨Z, g1, g2, g3⟩ := arr_rules (sc := sc) (d := d) (X := X1) (fr := fr) (s := s) hn he hm hinj1 a1 s (by omega) (Nat.le_refl _) X1 y6 y7 (Fr.rf _ _) (fun i j hi hj hij => ⟨fun h => absurd h.1 (by unfold prd; omega), fun _ => rfl⟩)
  simp only [hmr, hru] at g3
  refine ⟨Z, τ, ?_, (a3.mo (by decide)).tr (g1.mo (by decide)), fun i hi => ?_, a2, fun i j h1 h2 h3 => ?_, g3⟩
  · rw [en51]
    refine ev_seg rfl ?_
    simp only [TE, sxs, sx, ldI, ldA, stI, stA, inc, gtF, ptF, ldX, stX, ldR, ldL, stL, dp1, dp2, Tm, kS0, kS1, kS2, kS3, kS4, kS5, kS6, kS7, kS8, kS9, kS10, kS11, kS12, kS13, kS14, kS15, kS16, kS17, kS18, kS19, kS20, kS21, kS22, kS23, kS24, kS25, kS26, kS27, kS28, kS30, kS31, kS32, kS33, kS34, kS35, kS36, kS37, kS38, kS39, kS40, kS41, kS42, kS43, kS51, kS52, kS53, List.getElem?_cons_zero, List.getElem?_cons_succ, List.set_cons_zero, List.set_cons_succ, List.length_cons, List.length_nil, List.drop_succ_cons, List.drop_zero, List.cons_append, List.nil_append, Option.toList_some, Option.toList_none, cz, ci2, true_and, and_true, and_self, true_or, or_true, nI_1, Nat.reduceAdd, Nat.reduceLT]
    refine a5 Z ?_
    refine ev_seg rfl ?_
    simp only [TE, sxs, sx, ldI, ldA, stI, stA, inc, gtF, ptF, ldX, stX, ldR, ldL, stL, dp1, dp2, Tm, kS0, kS1, kS2, kS3, kS4, kS5, kS6, kS7, kS8, kS9, kS10, kS11, kS12, kS13, kS14, kS15, kS16, kS17, kS18, kS19, kS20, kS21, kS22, kS23, kS24, kS25, kS26, kS27, kS28, kS30, kS31, kS32, kS33, kS34, kS35, kS36, kS37, kS38, kS39, kS40, kS41, kS42, kS43, kS51, kS52, kS53, List.getElem?_cons_zero, List.getElem?_cons_succ, List.set_cons_zero, List.set_cons_succ, List.length_cons, List.length_nil, List.drop_succ_cons, List.drop_zero, List.cons_append, List.nil_append, Option.toList_some, Option.toList_none, cz, ci2, true_and, and_true, and_self, true_or, or_true, nI_1, Nat.reduceAdd, Nat.reduceLT]
    exact g2
  · obtain ⟨w1, w2⟩ := a1 i hi
    exact ⟨by rw [g1.at 12 (by decide)]; exact w1, w2⟩
  · have := a4 i j h1 h2 h3
    rwa [hmr, hmr] at this
end Arr
