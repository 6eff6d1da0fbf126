/-! passed: counting and finding, from outside -/
section Psd
variable {sc : SC} {d : Nat} {g : Int32} {X : XT}
/-- results are told for both or for none -/
def SY (S : Nat → Nat → Int32) (n : Nat) : Prop := (∀ i, i < n → S i i = -1) ∧ ∀ i j, i < n → j < n → (S i j = -1 ↔ S j i = -1)
theorem sumN_ct {p : Nat → Prop} [∀ j, Decidable (p j)] : ∀ n, sumN (fun j => bI (p j)) n = nI (ct (fun j => decide (p j)) n)
  | 0 => rfl
  | n + 1 => by
    rw [sumN, sumN_ct n, ct]
    by_cases h : p n
    · rw [bI_t h, if_pos (by rw [decide_eq_true_eq]; exact h), ← nI_ad]
      rfl
    · rw [bI_f h, if_neg (by rw [decide_eq_true_eq]; exact h)]
      exact Int32.add_zero _
theorem rem_perm {R R' : List (Nat × Nat)} (h : R.Perm R') (s : Nat) : rem R s = rem R' s := by
  induction h with
  | nil => rfl
  | cons p _ ih => rw [rem_c, rem_c, ih]
  | swap p q R => rw [rem_c, rem_c, rem_c, rem_c]; omega
  | trans _ _ h1 h2 => rw [h1, h2]
theorem gpl_swap (γ : Nat → Int) (p q : Nat × Nat) (o o' : Nat) : gpl (gpl γ p o) q o' = gpl (gpl γ q o') p o := by
  funext s
  unfold gpl ad1
  omega
theorem cn3_congr {f f' : Nat → Nat} (h : ∀ o, f o = f' o) : cn3 f 3 = cn3 f' 3 := by
  rw [show f = f' from funext h]
theorem cntL_perm {pass : (Nat → Int) → Bool} {R R' : List (Nat × Nat)} (h : R.Perm R') : ∀ γ, cntL pass R γ = cntL pass R' γ := by
  induction h with
  | nil => intro γ; rfl
  | cons p _ ih => intro γ; rw [cntL, cntL]; exact cn3_congr fun o => ih _
  | swap p q R =>
    intro γ
    have e : ∀ o o', cntL pass R (gpl (gpl γ q o) p o') = cntL pass R (gpl (gpl γ p o') q o) := fun o o' => by rw [gpl_swap]
    show cntL pass R (gpl (gpl γ q 0) p 0) + (cntL pass R (gpl (gpl γ q 0) p 1) + (cntL pass R (gpl (gpl γ q 0) p 2) + 0)) + ((cntL pass R (gpl (gpl γ q 1) p 0) + (cntL pass R (gpl (gpl γ q 1) p 1) + (cntL pass R (gpl (gpl γ q 1) p 2) + 0))) + ((cntL pass R (gpl (gpl γ q 2) p 0) + (cntL pass R (gpl (gpl γ q 2) p 1) + (cntL pass R (gpl (gpl γ q 2) p 2) + 0))) + 0)) =
      cntL pass R (gpl (gpl γ p 0) q 0) + (cntL pass R (gpl (gpl γ p 0) q 1) + (cntL pass R (gpl (gpl γ p 0) q 2) + 0)) + ((cntL pass R (gpl (gpl γ p 1) q 0) + (cntL pass R (gpl (gpl γ p 1) q 1) + (cntL pass R (gpl (gpl γ p 1) q 2) + 0))) + ((cntL pass R (gpl (gpl γ p 2) q 0) + (cntL pass R (gpl (gpl γ p 2) q 1) + (cntL pass R (gpl (gpl γ p 2) q 2) + 0))) + 0))
    rw [e 0 0, e 0 1, e 0 2, e 1 0, e 1 1, e 1 2, e 2 0, e 2 1, e 2 2]
    omega
  | trans _ _ h1 h2 => intro γ; rw [h1, h2]
theorem rem_flt (P : Nat × Nat → Bool) (s : Nat) : ∀ L : List (Nat × Nat), rem (L.filter P) s = rem L s - rem (L.filter (fun p => !P p)) s
  | [] => rfl
  | p :: L => by
    have ih := rem_flt P s L
    cases h : P p with
    | true =>
      rw [List.filter_cons, if_pos h, List.filter_cons, if_neg (by rw [h]; decide), rem_c, rem_c]
      omega
    | false =>
      rw [List.filter_cons, if_neg (by rw [h]; decide), List.filter_cons, if_pos (by rw [h]; rfl), rem_c, rem_c]
      omega
theorem rem_left {S : Nat → Nat → Int32} {n i : Nat} (hS : SY S n) (h3 : 3 ≤ n) (h5 : n ≤ 5) (hi : i < n) : rem (lfA S n) i = (n : Int) - 1 - (ct (fun j => decide (¬ S i j = -1)) n : Nat) := by
  have hd := hS.1
  have hs := hS.2
  have hF : ∀ L : List (Nat × Nat), ∀ p, rem ((p :: L).filter (fun p => decide (S p.1 p.2 = -1))) i = rem (L.filter (fun p => decide (S p.1 p.2 = -1))) i + (if S p.1 p.2 = -1 then rem1 p i else 0) := by
    intro L p
    by_cases h : S p.1 p.2 = -1
    · rw [List.filter_cons, if_pos (by rw [decide_eq_true_eq]; exact h), rem_c, if_pos h]
    · rw [List.filter_cons, if_neg (by rw [decide_eq_true_eq]; exact h), if_neg h, Int.add_zero]
  have hN : ([] : List (Nat × Nat)).filter (fun p => decide (S p.1 p.2 = -1)) = [] := rfl
  have hc : ∀ (p : Nat → Bool) m, ((ct p (m + 1) : Nat) : Int) = (ct p m : Nat) + (if p m = true then 1 else 0) := by
    intro p m
    rw [ct]
    split <;> simp
  unfold lfA
  rcases (show n = 3 ∨ n = 4 ∨ n = 5 by omega) with rfl | rfl | rfl
  · rw [show allQ 3 0 3 = [(0, 1), (0, 2), (1, 2)] from rfl]
    have a01 := hs 0 1 (by omega) (by omega)
    have a02 := hs 0 2 (by omega) (by omega)
    have a12 := hs 1 2 (by omega) (by omega)
    have b0 := hd 0 (by omega)
    have b1 := hd 1 (by omega)
    have b2 := hd 2 (by omega)
    rcases (show i = 0 ∨ i = 1 ∨ i = 2 by omega) with rfl | rfl | rfl <;> by_cases c1 : S 0 1 = -1 <;> by_cases c2 : S 0 2 = -1 <;> by_cases c3 : S 1 2 = -1 <;> simp_all [rem, ct, List.filter_cons]
  · rw [show allQ 4 0 4 = [(0, 1), (0, 2), (0, 3), (1, 2), (1, 3), (2, 3)] from rfl]
    have a01 := hs 0 1 (by omega) (by omega)
    have a02 := hs 0 2 (by omega) (by omega)
    have a03 := hs 0 3 (by omega) (by omega)
    have a12 := hs 1 2 (by omega) (by omega)
    have a13 := hs 1 3 (by omega) (by omega)
    have a23 := hs 2 3 (by omega) (by omega)
    have b0 := hd 0 (by omega)
    have b1 := hd 1 (by omega)
    have b2 := hd 2 (by omega)
    have b3 := hd 3 (by omega)
    clear hS hd hs
    rcases (show i = 0 ∨ i = 1 ∨ i = 2 ∨ i = 3 by omega) with rfl | rfl | rfl | rfl
    · by_cases c1 : S 0 1 = -1 <;> by_cases c2 : S 0 2 = -1 <;> by_cases c3 : S 0 3 = -1 <;> simp [hF, hN, rem, rem1, hc, ct, c1, c2, c3, b0]
    · by_cases c1 : S 0 1 = -1 <;> by_cases c2 : S 1 2 = -1 <;> by_cases c3 : S 1 3 = -1 <;> simp [hF, hN, rem, rem1, hc, ct, c1, c2, c3, b1, ← a01]
    · by_cases c1 : S 0 2 = -1 <;> by_cases c2 : S 1 2 = -1 <;> by_cases c3 : S 2 3 = -1 <;> simp [hF, hN, rem, rem1, hc, ct, c1, c2, c3, b2, ← a02, ← a12]
    · by_cases c1 : S 0 3 = -1 <;> by_cases c2 : S 1 3 = -1 <;> by_cases c3 : S 2 3 = -1 <;> simp [hF, hN, rem, rem1, hc, ct, c1, c2, c3, b3, ← a03, ← a13, ← a23]
  · rw [show allQ 5 0 5 = [(0, 1), (0, 2), (0, 3), (0, 4), (1, 2), (1, 3), (1, 4), (2, 3), (2, 4), (3, 4)] from rfl]
    have a01 := hs 0 1 (by omega) (by omega)
    have a02 := hs 0 2 (by omega) (by omega)
    have a03 := hs 0 3 (by omega) (by omega)
    have a04 := hs 0 4 (by omega) (by omega)
    have a12 := hs 1 2 (by omega) (by omega)
    have a13 := hs 1 3 (by omega) (by omega)
    have a14 := hs 1 4 (by omega) (by omega)
    have a23 := hs 2 3 (by omega) (by omega)
    have a24 := hs 2 4 (by omega) (by omega)
    have a34 := hs 3 4 (by omega) (by omega)
    have b0 := hd 0 (by omega)
    have b1 := hd 1 (by omega)
    have b2 := hd 2 (by omega)
    have b3 := hd 3 (by omega)
    have b4 := hd 4 (by omega)
    clear hS hd hs
    rcases (show i = 0 ∨ i = 1 ∨ i = 2 ∨ i = 3 ∨ i = 4 by omega) with rfl | rfl | rfl | rfl | rfl
    · by_cases c1 : S 0 1 = -1 <;> by_cases c2 : S 0 2 = -1 <;> by_cases c3 : S 0 3 = -1 <;> by_cases c4 : S 0 4 = -1 <;> simp [hF, hN, rem, rem1, hc, ct, c1, c2, c3, c4, b0]
    · by_cases c1 : S 0 1 = -1 <;> by_cases c2 : S 1 2 = -1 <;> by_cases c3 : S 1 3 = -1 <;> by_cases c4 : S 1 4 = -1 <;> simp [hF, hN, rem, rem1, hc, ct, c1, c2, c3, c4, b1, ← a01]
    · by_cases c1 : S 0 2 = -1 <;> by_cases c2 : S 1 2 = -1 <;> by_cases c3 : S 2 3 = -1 <;> by_cases c4 : S 2 4 = -1 <;> simp [hF, hN, rem, rem1, hc, ct, c1, c2, c3, c4, b2, ← a02, ← a12]
    · by_cases c1 : S 0 3 = -1 <;> by_cases c2 : S 1 3 = -1 <;> by_cases c3 : S 2 3 = -1 <;> by_cases c4 : S 3 4 = -1 <;> simp [hF, hN, rem, rem1, hc, ct, c1, c2, c3, c4, b3, ← a03, ← a13, ← a23]
    · by_cases c1 : S 0 4 = -1 <;> by_cases c2 : S 1 4 = -1 <;> by_cases c3 : S 2 4 = -1 <;> by_cases c4 : S 3 4 = -1 <;> simp [hF, hN, rem, rem1, hc, ct, c1, c2, c3, c4, b4, ← a04, ← a14, ← a24, ← a34]
theorem OL.congr {n w pl mg : Nat} {γ δ δ' : Nat → Int} (h : OL X n w pl mg γ δ) (hd : ∀ i, i < n → δ i = δ' i) : OL X n w pl mg γ δ' := ⟨h.1, h.2.1, h.2.2.1, h.2.2.2.1, h.2.2.2.2.1, fun i hi => by rw [← hd i hi]; exact h.2.2.2.2.2 i hi⟩
theorem OL.fr {K : List Nat} {X' : XT} {n w pl mg : Nat} {γ δ : Nat → Int} (h : OL X n w pl mg γ δ) (hf : Fr K X X') (h1 : 19 ∉ K) (h2 : 23 ∉ K) (h3 : 24 ∉ K) : OL X' n w pl mg γ δ := ⟨by rw [hf.at 19 h1]; exact h.1, by rw [hf.at 19 h1]; exact h.2.1, by rw [hf.at 19 h1]; exact h.2.2.1, by rw [hf.at 19 h1]; exact h.2.2.2.1, fun i hi => by rw [hf.at 23 h2]; exact h.2.2.2.2.1 i hi, fun i hi => by rw [hf.at 24 h3]; exact h.2.2.2.2.2 i hi⟩
theorem dl_rem {n i : Nat} (hS : SY (scC X g) n) (h3 : 3 ≤ n) (h5 : n ≤ 5) (hi : i < n) {R : List (Nat × Nat)} (hR : R.Perm (lfA (scC X g) n)) : (nI n - 1 - plSum X g (nI i) n).toInt = rem R i := by
  rw [rem_perm hR, rem_left hS h3 h5 hi]
  have e1 : plSum X g (nI i) n = nI (ct (fun j => decide (¬ scC X g i j = -1)) n) := sumN_ct n
  have := ct_le (fun j => decide (¬ scC X g i j = -1)) n
  rw [e1]
  generalize ct (fun j => decide (¬ scC X g i j = -1)) n = c at this ⊢
  rw [zI_n, zI_n, show (1 : Int32) = zI 1 from rfl, ← Int32.ofInt_sub, ← Int32.ofInt_sub, Int32.toInt_ofInt_of_le (by omega) (by omega)]
/-- the points of a group as numbers -/
def PZ (X : XT) (g : Int32) (n : Nat) : Nat → Int := fun i => (PX X g n i).toInt
theorem lfA_ok {S : Nat → Nat → Int32} {n : Nat} {p : Nat × Nat} (h : p ∈ lfA S n) : p.1 < n ∧ p.2 < n ∧ p.1 ≠ p.2 := by
  have := lfA_mem h
  omega
theorem s_countPassed {n w pl mg : Nat} (hN : X.1 2 0 g 5 = nI n) (h3 : 3 ≤ n) (h5 : n ≤ 5) (hS : SY (scC X g) n) (hw : w < n) (hm : mg ≤ 1) (hp : pl ≤ 2) (hb : bd n 4000 (PZ X g n)) :
    ∃ Z, Ev sc (d + 13) 32 0 (ent 32 [vR 19 0 0, vR 2 0 g, vI (nI w), vI (nI pl), vI (nI mg)]) [] X (.inl (some (.inl (nI (cntL (psd n w pl mg) (lfA (scC X g) n).reverse (PZ X g n)))))) Z 0 ∧ Fr [19, 21, 22, 23, 24] X Z := by
  obtain ⟨X1, a1, a2, a3⟩ := s_open (sc := sc) (d := d) (w := w) (pl := pl) (mg := mg) hN h5
  have eS := scC_fr (g := g) a2 (by decide)
  obtain ⟨X2, L, b1, b2, b3, b4⟩ := s_listOwnLast20 (sc := sc) (d := d) (g := g) (X := X1) (seat := nI w) (by rw [a2.at 2 (by decide)]; exact hN) h5
  rw [eS] at b4
  have hpm : L.Perm (lfA (scC X g) n) := by rw [b4]; exact lfO_perm _ _ _
  have hL0 : ∀ p, p ∈ L → p.1 < n ∧ p.2 < n ∧ p.1 ≠ p.2 := fun p hq => lfA_ok (hpm.mem_iff.mp hq)
  have hl : L.length ≤ 10 := by rw [hpm.length_eq]; exact lfA_len h5
  have htk : L.take L.length = L := List.take_length
  have hO2 : OL X2 n w pl mg (PZ X g n) (rem (L.take L.length).reverse) := (a3.fr b2 (by decide) (by decide) (by decide)).congr (fun i hi => by
    rw [htk]
    exact dl_rem hS h3 h5 hi ((List.reverse_perm L).trans hpm))
  obtain ⟨Z, c1, c2, c3⟩ := s_waysPassed (sc := sc) (d := d) h5 hw hm hp hl hL0 L.length X2 (PZ X g n) (Nat.le_refl _) b3 (fun i hi => by have := hb i hi; omega) hO2
  rw [htk, cntL_perm (((List.reverse_perm L).trans hpm).trans (List.reverse_perm _).symm)] at c1
  refine ⟨Z, ?_, ((a2.mo (by decide)).tr (b2.mo (by decide))).tr (c2.mo (by decide))⟩
  rw [en32]
  refine ev_seg rfl ?_
  simp only [TE, sxs, sx, ldI, ldA, stI, stA, inc, gtF, ptF, ldX, stX, ldR, ldL, stL, dp1, dp2, Tm, kS0, kS1, kS2, kS3, kS4, kS5, kS6, kS7, kS8, kS9, kS10, kS11, kS12, kS13, kS14, kS15, kS16, kS17, kS18, kS19, kS20, kS21, kS22, kS23, kS24, kS25, kS26, kS27, kS28, kS30, kS31, kS32, kS33, kS34, kS35, kS36, kS37, kS38, kS39, kS40, kS41, kS42, kS43, kS51, kS52, kS53, List.getElem?_cons_zero, List.getElem?_cons_succ, List.set_cons_zero, List.set_cons_succ, List.length_cons, List.length_nil, List.drop_succ_cons, List.drop_zero, List.cons_append, List.nil_append, Option.toList_some, Option.toList_none, cz, ci2, true_and, and_true, and_self, true_or, or_true, nI_1, Nat.reduceAdd, Nat.reduceLT]
  refine cu5 rfl rfl (by first | exact rfl | exact trivial) (Ev_d (d' := d + 12) a1 (by omega)) ?_
  refine ev_seg rfl ?_
  simp only [TE, sxs, sx, ldI, ldA, stI, stA, inc, gtF, ptF, ldX, stX, ldR, ldL, stL, dp1, dp2, Tm, kS0, kS1, kS2, kS3, kS4, kS5, kS6, kS7, kS8, kS9, kS10, kS11, kS12, kS13, kS14, kS15, kS16, kS17, kS18, kS19, kS20, kS21, kS22, kS23, kS24, kS25, kS26, kS27, kS28, kS30, kS31, kS32, kS33, kS34, kS35, kS36, kS37, kS38, kS39, kS40, kS41, kS42, kS43, kS51, kS52, kS53, List.getElem?_cons_zero, List.getElem?_cons_succ, List.set_cons_zero, List.set_cons_succ, List.length_cons, List.length_nil, List.drop_succ_cons, List.drop_zero, List.cons_append, List.nil_append, Option.toList_some, Option.toList_none, cz, ci2, true_and, and_true, and_self, true_or, or_true, nI_1, Nat.reduceAdd, Nat.reduceLT]
  refine cv3 rfl rfl (by first | exact rfl | exact trivial) (Ev_d (d' := d + 12) b1 (by omega)) ?_
  refine ev_seg rfl ?_
  simp only [TE, sxs, sx, ldI, ldA, stI, stA, inc, gtF, ptF, ldX, stX, ldR, ldL, stL, dp1, dp2, Tm, kS0, kS1, kS2, kS3, kS4, kS5, kS6, kS7, kS8, kS9, kS10, kS11, kS12, kS13, kS14, kS15, kS16, kS17, kS18, kS19, kS20, kS21, kS22, kS23, kS24, kS25, kS26, kS27, kS28, kS30, kS31, kS32, kS33, kS34, kS35, kS36, kS37, kS38, kS39, kS40, kS41, kS42, kS43, kS51, kS52, kS53, List.getElem?_cons_zero, List.getElem?_cons_succ, List.set_cons_zero, List.set_cons_succ, List.length_cons, List.length_nil, List.drop_succ_cons, List.drop_zero, List.cons_append, List.nil_append, Option.toList_some, Option.toList_none, cz, ci2, true_and, and_true, and_self, true_or, or_true, nI_1, Nat.reduceAdd, Nat.reduceLT]
  refine cv2 rfl rfl (by first | exact rfl | exact trivial) (Ev_d (d' := d + 12) c1 (by omega)) ?_
  refine ev_seg rfl ?_
  simp only [TE, sxs, sx, ldI, ldA, stI, stA, inc, gtF, ptF, ldX, stX, ldR, ldL, stL, dp1, dp2, Tm, kS0, kS1, kS2, kS3, kS4, kS5, kS6, kS7, kS8, kS9, kS10, kS11, kS12, kS13, kS14, kS15, kS16, kS17, kS18, kS19, kS20, kS21, kS22, kS23, kS24, kS25, kS26, kS27, kS28, kS30, kS31, kS32, kS33, kS34, kS35, kS36, kS37, kS38, kS39, kS40, kS41, kS42, kS43, kS51, kS52, kS53, List.getElem?_cons_zero, List.getElem?_cons_succ, List.set_cons_zero, List.set_cons_succ, List.length_cons, List.length_nil, List.drop_succ_cons, List.drop_zero, List.cons_append, List.nil_append, Option.toList_some, Option.toList_none, cz, ci2, true_and, and_true, and_self, true_or, or_true, nI_1, Nat.reduceAdd, Nat.reduceLT]
theorem s_firstPassed {n w pl mg : Nat} (hN : X.1 2 0 g 5 = nI n) (h3 : 3 ≤ n) (h5 : n ≤ 5) (hS : SY (scC X g) n) (hw : w < n) (hm : mg ≤ 1) (hp : pl ≤ 2) (hb : bd n 4000 (PZ X g n)) :
    ∃ Z, Ev sc (d + 13) 33 0 (ent 33 [vR 19 0 0, vR 2 0 g, vI (nI w), vI (nI pl), vI (nI mg)]) [] X (.inl (some (.inl (oI (lowL (psd n w pl mg) (lfA (scC X g) n).reverse (PZ X g n)))))) Z 0 ∧ Fr [19, 21, 22, 23, 24] X Z := by
  obtain ⟨X1, a1, a2, a3⟩ := s_open (sc := sc) (d := d) (w := w) (pl := pl) (mg := mg) hN h5
  have eS := scC_fr (g := g) a2 (by decide)
  obtain ⟨X2, L, b1, b2, b3, b4⟩ := s_list20 (sc := sc) (d := d) (g := g) (X := X1) (by rw [a2.at 2 (by decide)]; exact hN) h5
  rw [eS] at b4
  have hL0 : ∀ p, p ∈ L → p.1 < n ∧ p.2 < n ∧ p.1 ≠ p.2 := fun p hq => lfA_ok (by rw [← b4]; exact hq)
  have hl : L.length ≤ 10 := by rw [b4]; exact lfA_len h5
  have htk : L.take L.length = L := List.take_length
  have hO2 : OL X2 n w pl mg (PZ X g n) (rem (L.take L.length).reverse) := (a3.fr b2 (by decide) (by decide) (by decide)).congr (fun i hi => by
    rw [htk]
    exact dl_rem hS h3 h5 hi (by rw [← b4]; exact List.reverse_perm L))
  obtain ⟨Z, c1, c2, c3⟩ := s_lowestPassed (sc := sc) (d := d) h5 hw hm hp hl hL0 L.length X2 (PZ X g n) (Nat.le_refl _) b3 (fun i hi => by have := hb i hi; omega) hO2
  rw [htk] at c1
  refine ⟨Z, ?_, ((a2.mo (by decide)).tr (b2.mo (by decide))).tr (c2.mo (by decide))⟩
  rw [← b4, en33]
  refine ev_seg rfl ?_
  simp only [TE, sxs, sx, ldI, ldA, stI, stA, inc, gtF, ptF, ldX, stX, ldR, ldL, stL, dp1, dp2, Tm, kS0, kS1, kS2, kS3, kS4, kS5, kS6, kS7, kS8, kS9, kS10, kS11, kS12, kS13, kS14, kS15, kS16, kS17, kS18, kS19, kS20, kS21, kS22, kS23, kS24, kS25, kS26, kS27, kS28, kS30, kS31, kS32, kS33, kS34, kS35, kS36, kS37, kS38, kS39, kS40, kS41, kS42, kS43, kS51, kS52, kS53, List.getElem?_cons_zero, List.getElem?_cons_succ, List.set_cons_zero, List.set_cons_succ, List.length_cons, List.length_nil, List.drop_succ_cons, List.drop_zero, List.cons_append, List.nil_append, Option.toList_some, Option.toList_none, cz, ci2, true_and, and_true, and_self, true_or, or_true, nI_1, Nat.reduceAdd, Nat.reduceLT]
  refine cu5 rfl rfl (by first | exact rfl | exact trivial) (Ev_d (d' := d + 12) a1 (by omega)) ?_
  refine ev_seg rfl ?_
  simp only [TE, sxs, sx, ldI, ldA, stI, stA, inc, gtF, ptF, ldX, stX, ldR, ldL, stL, dp1, dp2, Tm, kS0, kS1, kS2, kS3, kS4, kS5, kS6, kS7, kS8, kS9, kS10, kS11, kS12, kS13, kS14, kS15, kS16, kS17, kS18, kS19, kS20, kS21, kS22, kS23, kS24, kS25, kS26, kS27, kS28, kS30, kS31, kS32, kS33, kS34, kS35, kS36, kS37, kS38, kS39, kS40, kS41, kS42, kS43, kS51, kS52, kS53, List.getElem?_cons_zero, List.getElem?_cons_succ, List.set_cons_zero, List.set_cons_succ, List.length_cons, List.length_nil, List.drop_succ_cons, List.drop_zero, List.cons_append, List.nil_append, Option.toList_some, Option.toList_none, cz, ci2, true_and, and_true, and_self, true_or, or_true, nI_1, Nat.reduceAdd, Nat.reduceLT]
  refine cv2 rfl rfl (by first | exact rfl | exact trivial) (Ev_d (d' := d + 12) b1 (by omega)) ?_
  refine ev_seg rfl ?_
  simp only [TE, sxs, sx, ldI, ldA, stI, stA, inc, gtF, ptF, ldX, stX, ldR, ldL, stL, dp1, dp2, Tm, kS0, kS1, kS2, kS3, kS4, kS5, kS6, kS7, kS8, kS9, kS10, kS11, kS12, kS13, kS14, kS15, kS16, kS17, kS18, kS19, kS20, kS21, kS22, kS23, kS24, kS25, kS26, kS27, kS28, kS30, kS31, kS32, kS33, kS34, kS35, kS36, kS37, kS38, kS39, kS40, kS41, kS42, kS43, kS51, kS52, kS53, List.getElem?_cons_zero, List.getElem?_cons_succ, List.set_cons_zero, List.set_cons_succ, List.length_cons, List.length_nil, List.drop_succ_cons, List.drop_zero, List.cons_append, List.nil_append, Option.toList_some, Option.toList_none, cz, ci2, true_and, and_true, and_self, true_or, or_true, nI_1, Nat.reduceAdd, Nat.reduceLT]
  refine cv2 rfl rfl (by first | exact rfl | exact trivial) (Ev_d (d' := d + 12) c1 (by omega)) ?_
  refine ev_seg rfl ?_
  simp only [TE, sxs, sx, ldI, ldA, stI, stA, inc, gtF, ptF, ldX, stX, ldR, ldL, stL, dp1, dp2, Tm, kS0, kS1, kS2, kS3, kS4, kS5, kS6, kS7, kS8, kS9, kS10, kS11, kS12, kS13, kS14, kS15, kS16, kS17, kS18, kS19, kS20, kS21, kS22, kS23, kS24, kS25, kS26, kS27, kS28, kS30, kS31, kS32, kS33, kS34, kS35, kS36, kS37, kS38, kS39, kS40, kS41, kS42, kS43, kS51, kS52, kS53, List.getElem?_cons_zero, List.getElem?_cons_succ, List.set_cons_zero, List.set_cons_succ, List.length_cons, List.length_nil, List.drop_succ_cons, List.drop_zero, List.cons_append, List.nil_append, Option.toList_some, Option.toList_none, cz, ci2, true_and, and_true, and_self, true_or, or_true, nI_1, Nat.reduceAdd, Nat.reduceLT]
end Psd
