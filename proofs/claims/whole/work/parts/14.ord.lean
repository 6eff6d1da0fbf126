/-! counting; rows compared; the place of a team among tied ones -/
theorem faux_spec (f g : Nat → Int32) : ∀ q c, (∀ i, c ≤ i → i < faux f g q c → f i = g i) ∧ (faux f g q c < c + q → ¬ f (faux f g q c) = g (faux f g q c))
  | 0, c => ⟨fun i h1 h2 => absurd h2 (by unfold faux; omega), fun h => absurd h (by unfold faux; omega)⟩
  | q + 1, c => by
    by_cases h : f c = g c
    · have e : faux f g (q + 1) c = faux f g q (c + 1) := if_pos h
      rw [e]
      obtain ⟨h1, h2⟩ := faux_spec f g q (c + 1)
      refine ⟨fun i hi hl => ?_, fun hl => h2 (by omega)⟩
      rcases Nat.lt_or_ge c i with w | w
      · exact h1 i w hl
      · rw [show i = c by omega]; exact h
    · have e : faux f g (q + 1) c = c := if_neg h
      rw [e]
      exact ⟨fun i h1 h2 => absurd h2 (by omega), fun _ => h⟩
theorem fa_same {f g : Nat → Int32} {m i : Nat} (h : i < fa f g m) : f i = g i := (faux_spec f g m 0).1 i (Nat.zero_le _) h
theorem fa_diff {f g : Nat → Int32} {m : Nat} (h : fa f g m < m) : ¬ f (fa f g m) = g (fa f g m) := (faux_spec f g m 0).2 (by unfold fa at h; omega)
theorem fa_uniq {f g : Nat → Int32} {m i : Nat} (hi : i < m) (h1 : ∀ c, c < i → f c = g c) (h2 : ¬ f i = g i) : fa f g m = i := by
  rcases Nat.lt_trichotomy (fa f g m) i with h | h | h
  · exact absurd (h1 _ h) (fa_diff (by omega))
  · exact h
  · exact absurd (fa_same h) h2
theorem fa_all {f g : Nat → Int32} {m : Nat} : fa f g m = m ↔ ∀ c, c < m → f c = g c := by
  constructor
  · intro h c hc
    exact fa_same (m := m) (by omega)
  · intro h
    rcases Nat.lt_or_ge (fa f g m) m with q | q
    · exact absurd (h _ q) (fa_diff q)
    · have := fa_le f g m; omega
theorem fa_comm (f g : Nat → Int32) (m : Nat) : fa f g m = fa g f m := by
  rcases Nat.lt_or_ge (fa g f m) m with q | q
  · exact fa_uniq q (fun c hc => (fa_same hc).symm) (fun e => fa_diff q e.symm)
  · have e : fa g f m = m := by have := fa_le g f m; omega
    rw [e]
    exact fa_all.mpr (fun c hc => (fa_all.mp e c hc).symm)
theorem fa_congr {f g f' g' : Nat → Int32} {m : Nat} (hf : ∀ c, c < m → f c = f' c) (hg : ∀ c, c < m → g c = g' c) : fa f g m = fa f' g' m := by
  rcases Nat.lt_or_ge (fa f' g' m) m with q | q
  · exact fa_uniq q (fun c hc => by rw [hf c (by omega), hg c (by omega)]; exact fa_same hc) (fun e => fa_diff q (by rw [← hf _ q, ← hg _ q]; exact e))
  · have e : fa f' g' m = m := by have := fa_le f' g' m; omega
    rw [e]
    exact fa_all.mpr (fun c hc => by rw [hf c hc, hg c hc]; exact fa_all.mp e c hc)
theorem bet_congr {f g f' g' : Nat → Int32} {m : Nat} (hf : ∀ c, c < m → f c = f' c) (hg : ∀ c, c < m → g c = g' c) : bet f g m ↔ bet f' g' m := by
  unfold bet
  rw [fa_congr hf hg]
  constructor
  · rintro ⟨h1, h2⟩
    rw [hf _ h1, hg _ h1] at h2
    exact ⟨h1, h2⟩
  · rintro ⟨h1, h2⟩
    rw [← hf _ h1, ← hg _ h1] at h2
    exact ⟨h1, h2⟩
theorem bet_asym {f g : Nat → Int32} {m : Nat} (h : bet f g m) : ¬ bet g f m := by
  intro q
  unfold bet at h q
  rw [fa_comm] at q
  exact i_irr _ (i_tr h.2 q.2)
theorem bet_irr (f : Nat → Int32) (m : Nat) : ¬ bet f f m := fun h => bet_asym h h
theorem bet_tot {f g : Nat → Int32} {m : Nat} (h : ¬ fa f g m = m) : bet f g m ∨ bet g f m := by
  have hlt : fa f g m < m := by have := fa_le f g m; omega
  rcases i_tri (fa_diff hlt) with q | q
  · refine Or.inr ⟨by rw [fa_comm]; exact hlt, ?_⟩
    rw [fa_comm]
    exact q
  · exact Or.inl ⟨hlt, q⟩
theorem bet_fa {f g : Nat → Int32} {m : Nat} (h : bet f g m) : ¬ fa f g m = m := by have := h.1; omega
theorem bet_neg {f h : Nat → Int32} (g : Nat → Int32) {m : Nat} (hb : bet f h m) : bet f g m ∨ bet g h m := by
  obtain ⟨h1, h2⟩ := hb
  generalize hi : fa f h m = i at h1 h2
  have hs : ∀ c, c < i → f c = h c := fun c hc => fa_same (by rw [hi]; exact hc)
  have hj0 := fa_le f g m
  generalize hj : fa f g m = j at hj0
  have hsj : ∀ c, c < j → f c = g c := fun c hc => fa_same (by rw [hj]; exact hc)
  rcases Nat.lt_trichotomy j i with q | q | q
  · have hd : ¬ f j = g j := by have := fa_diff (f := f) (g := g) (m := m) (by omega); rwa [hj] at this
    rcases i_tri hd with w | w
    · refine Or.inr ?_
      have e : fa g h m = j := fa_uniq (by omega) (fun c hc => by rw [← hsj c hc]; exact hs c (by omega)) (fun e => hd (by rw [hs j q]; exact e.symm))
      refine ⟨by omega, ?_⟩
      rw [e, ← hs j q]
      exact w
    · exact Or.inl ⟨by omega, by rw [hj]; exact w⟩
  · subst q
    have hd : ¬ f j = g j := by have := fa_diff (f := f) (g := g) (m := m) (by omega); rwa [hj] at this
    rcases i_tri hd with w | w
    · refine Or.inr ?_
      have hgh : h j < g j := i_tr h2 w
      have e : fa g h m = j := fa_uniq (by omega) (fun c hc => by rw [← hsj c hc]; exact hs c hc) (fun e => i_ne hgh e.symm)
      refine ⟨by omega, ?_⟩
      rw [e]
      exact hgh
    · exact Or.inl ⟨by omega, by rw [hj]; exact w⟩
  · refine Or.inr ?_
    have hgi : f i = g i := hsj i q
    have hgh : h i < g i := by rw [← hgi]; exact h2
    have e : fa g h m = i := fa_uniq h1 (fun c hc => by rw [← hsj c (by omega)]; exact hs c hc) (fun e => i_ne hgh e.symm)
    refine ⟨by omega, ?_⟩
    rw [e]
    exact hgh
theorem bet_tr {f g h : Nat → Int32} {m : Nat} (h1 : bet f g m) (h2 : bet g h m) : bet f h m := (bet_neg h h1).resolve_right (bet_asym h2)
/-! counts -/
def ct (p : Nat → Bool) : Nat → Nat
  | 0 => 0
  | n + 1 => ct p n + (if p n = true then 1 else 0)
theorem ct_le (p : Nat → Bool) : ∀ n, ct p n ≤ n
  | 0 => Nat.le_refl _
  | n + 1 => by
    have := ct_le p n
    unfold ct
    split <;> omega
theorem ct_congr {p q : Nat → Bool} : ∀ {n : Nat}, (∀ j, j < n → p j = q j) → ct p n = ct q n
  | 0, _ => rfl
  | n + 1, h => by rw [ct, ct, ct_congr (fun j hj => h j (by omega)), h n (by omega)]
theorem ct_mono {p q : Nat → Bool} : ∀ {n : Nat}, (∀ j, j < n → p j = true → q j = true) → ct p n ≤ ct q n
  | 0, _ => Nat.le_refl _
  | n + 1, h => by
    have h1 := ct_mono (p := p) (q := q) (n := n) (fun j hj => h j (by omega))
    have h2 := h n (by omega)
    unfold ct
    by_cases hp : p n = true
    · rw [if_pos hp, if_pos (h2 hp)]; omega
    · rw [if_neg hp]; omega
theorem ct_lt {p q : Nat → Bool} {a : Nat} : ∀ {n : Nat}, (∀ j, j < n → p j = true → q j = true) → a < n → p a = false → q a = true → ct p n < ct q n
  | 0, _, ha, _, _ => absurd ha (Nat.not_lt_zero _)
  | n + 1, h, ha, h1, h2 => by
    unfold ct
    rcases Nat.lt_or_ge a n with w | w
    · have h3 := ct_lt (p := p) (q := q) (n := n) (fun j hj => h j (by omega)) w h1 h2
      have h4 := h n (by omega)
      by_cases hp : p n = true
      · rw [if_pos hp, if_pos (h4 hp)]; omega
      · rw [if_neg hp]; omega
    · have e : a = n := by omega
      subst e
      have h3 := ct_mono (p := p) (q := q) (n := a) (fun j hj => h j (by omega))
      rw [h1, h2]
      simp
      omega
theorem ct_add {p q : Nat → Bool} : ∀ {n : Nat}, (∀ j, j < n → ¬ (p j = true ∧ q j = true)) → ct (fun j => p j || q j) n = ct p n + ct q n
  | 0, _ => rfl
  | n + 1, h => by
    have h1 := ct_add (p := p) (q := q) (n := n) (fun j hj => h j (by omega))
    have h2 := h n (by omega)
    unfold ct
    rw [h1]
    cases hp : p n <;> cases hq : q n <;> simp_all <;> omega
theorem ct_zero {p : Nat → Bool} : ∀ {n : Nat}, (∀ j, j < n → p j = false) → ct p n = 0
  | 0, _ => rfl
  | n + 1, h => by rw [ct, ct_zero (fun j hj => h j (by omega)), h n (by omega)]; rfl
theorem ct_one {p : Nat → Bool} {a : Nat} : ∀ {n : Nat}, a < n → (∀ j, j < n → (p j = true ↔ j = a)) → ct p n = 1
  | 0, h, _ => absurd h (Nat.not_lt_zero _)
  | n + 1, h, hp => by
    unfold ct
    rcases Nat.lt_or_ge a n with w | w
    · rw [ct_one w (fun j hj => hp j (by omega)), if_neg (fun q => by have := (hp n (by omega)).mp q; omega)]
    · have e : a = n := by omega
      subst e
      rw [ct_zero (fun j hj => by
        cases hq : p j with
        | false => rfl
        | true => have := (hp j (by omega)).mp hq; omega), if_pos ((hp a (by omega)).mpr rfl)]
theorem fb_holes : ∀ (m n : Nat) (f : Nat → Nat), (∀ i, i < n → f i < m) → (∀ i j, i < j → j < n → f i ≠ f j) → n ≤ m := by
  intro m
  induction m with
  | zero =>
    intro n f h1 _
    rcases Nat.eq_zero_or_pos n with h | h
    · omega
    · exact absurd (h1 0 h) (Nat.not_lt_zero _)
  | succ m ih =>
    intro n f h1 h2
    by_cases hx : ∃ i, i < n ∧ f i = m
    · obtain ⟨a, ha, hfa⟩ := hx
      have hg := ih (n - 1) (fun i => if i < a then f i else f (i + 1)) (by
        intro i hi
        by_cases q : i < a
        · simp only [if_pos q]
          have b1 := h1 i (by omega)
          have b2 := h2 i a q ha
          omega
        · simp only [if_neg q]
          have b1 := h1 (i + 1) (by omega)
          have b2 := h2 a (i + 1) (by omega) (by omega)
          omega) (by
        intro i j hij hj
        by_cases q : i < a
        · by_cases r : j < a
          · simp only [if_pos q, if_pos r]
            exact h2 i j hij (by omega)
          · simp only [if_pos q, if_neg r]
            exact h2 i (j + 1) (by omega) (by omega)
        · have r : ¬ j < a := by omega
          simp only [if_neg q, if_neg r]
          exact h2 (i + 1) (j + 1) (by omega) (by omega))
      omega
    · have hg := ih n f (fun i hi => by
        have b1 := h1 i hi
        have b2 : f i ≠ m := fun e => hx ⟨i, hi, e⟩
        omega) h2
      omega
/-- two of them in one place -/
theorem fb_twice {m n : Nat} {f : Nat → Nat} (h : ∀ i, i < n → f i < m) (hm : m < n) : ∃ i j, i < j ∧ j < n ∧ f i = f j := by
  refine Classical.byContradiction fun hx => ?_
  have := fb_holes m n f h (fun i j hij hj e => hx ⟨i, j, hij, hj, e⟩)
  omega
/-- as many as places, none twice: each place is taken -/
theorem fb_onto {n : Nat} {f : Nat → Nat} (h : ∀ i, i < n → f i < n) (h2 : ∀ i j, i < j → j < n → f i ≠ f j) {y : Nat} (hy : y < n) : ∃ i, i < n ∧ f i = y := by
  refine Classical.byContradiction fun hx => ?_
  have hne : ∀ i, i < n → f i ≠ y := fun i hi e => hx ⟨i, hi, e⟩
  have := fb_holes (n - 1) n (fun i => if f i < y then f i else f i - 1) (by
    intro i hi
    have b1 := h i hi
    have b2 := hne i hi
    by_cases q : f i < y
    · simp only [if_pos q]; omega
    · simp only [if_neg q]; omega) (by
    intro i j hij hj
    have b1 := hne i (by omega)
    have b2 := hne j hj
    have b3 := h2 i j hij hj
    by_cases q : f i < y
    · by_cases r : f j < y
      · simp only [if_pos q, if_pos r]; exact b3
      · simp only [if_pos q, if_neg r]; omega
    · by_cases r : f j < y
      · simp only [if_neg q, if_pos r]; omega
      · simp only [if_neg q, if_neg r]; omega)
  omega
/-- a bijection keeps counts -/
theorem ct_perm {p : Nat → Bool} {σ : Nat → Nat} : ∀ {n : Nat}, (∀ i, i < n → σ i < n) → (∀ i j, i < n → j < n → σ i = σ j → i = j) → ct (fun i => p (σ i)) n = ct p n := by
  intro n
  -- by taking one element out at a time
  have key : ∀ (k : Nat) (q : Nat → Bool), k ≤ n → (∀ i, i < n → σ i < n) → (∀ i j, i < n → j < n → σ i = σ j → i = j) → ct (fun i => p (σ i)) k = ct (fun z => p z && (List.range k).any (fun i => σ i == z)) n := by
    intro k
    induction k with
    | zero =>
      intro q _ _ _
      exact (ct_zero (fun j _ => by simp)).symm
    | succ k ih =>
      intro q hk h1 h2
      have e1 := ih q (by omega) h1 h2
      rw [ct, e1]
      have hd : ∀ z, z < n → ¬ ((p z && (List.range k).any (fun i => σ i == z)) = true ∧ (p z && σ k == z) = true) := by
        intro z hz ⟨w1, w2⟩
        simp only [Bool.and_eq_true, List.any_eq_true, List.mem_range, beq_iff_eq] at w1 w2
        obtain ⟨-, i, hi, e⟩ := w1
        have := h2 i k (by omega) (by omega) (e.trans w2.2.symm)
        omega
      have e2 : ct (fun z => p z && (List.range (k + 1)).any (fun i => σ i == z)) n = ct (fun z => (p z && (List.range k).any (fun i => σ i == z)) || (p z && σ k == z)) n := by
        apply ct_congr
        intro z hz
        rw [List.range_succ, List.any_append]
        simp only [List.any_cons, List.any_nil, Bool.or_false]
        cases p z <;> simp
      rw [e2, ct_add hd]
      congr 1
      by_cases hp : p (σ k) = true
      · rw [if_pos hp]
        refine (ct_one (h1 k (by omega)) (fun z hz => ?_)).symm
        simp only [Bool.and_eq_true, beq_iff_eq]
        constructor
        · rintro ⟨-, e⟩; exact e.symm
        · rintro rfl; exact ⟨hp, rfl⟩
      · rw [if_neg hp]
        refine (ct_zero (fun z hz => ?_)).symm
        cases hw : (p z && σ k == z) with
        | false => rfl
        | true =>
          simp only [Bool.and_eq_true, beq_iff_eq] at hw
          rw [hw.2] at hp
          exact absurd hw.1 hp
  intro h1 h2
  rw [key n p (Nat.le_refl _) h1 h2]
  have hall : ∀ z, z < n → (List.range n).any (fun i => σ i == z) = true := by
    intro z hz
    obtain ⟨i, hi, e⟩ := fb_onto h1 (fun i j hij hj e => by have := h2 i j (by omega) hj e; omega) hz
    exact List.any_eq_true.mpr ⟨i, List.mem_range.mpr hi, by simp [e]⟩
  exact ct_congr (fun z hz => by rw [hall z hz, Bool.and_true])
theorem ct_rng {s t : Nat} : ∀ {n : Nat}, s ≤ t → t ≤ n → ct (fun i => decide (s ≤ i) && decide (i < t)) n = t - s
  | 0, h1, h2 => by unfold ct; omega
  | n + 1, h1, h2 => by
    unfold ct
    rcases Nat.lt_or_ge n t with w | w
    · have e : t = n + 1 := by omega
      subst e
      by_cases hs : s ≤ n
      · have h3 : ct (fun i => decide (s ≤ i) && decide (i < n + 1)) n = ct (fun i => decide (s ≤ i) && decide (i < n)) n := ct_congr (fun j hj => by simp [hj, Nat.lt_succ_of_lt hj])
        rw [h3, ct_rng hs (Nat.le_refl _)]
        simp [hs]
        omega
      · have h3 : ct (fun i => decide (s ≤ i) && decide (i < n + 1)) n = 0 := ct_zero (fun j hj => by simp; omega)
        rw [h3]
        simp [hs]
        omega
    · rw [ct_rng h1 w]
      simp
      omega
/-! how many of a class are better -/
def betB (f g : Nat → Int32) (m : Nat) : Bool := decide (fa f g m < m) && decide (g (fa f g m) < f (fa f g m))
theorem betB_iff {f g : Nat → Int32} {m : Nat} : betB f g m = true ↔ bet f g m := by
  unfold betB bet
  rw [Bool.and_eq_true, decide_eq_true_eq, decide_eq_true_eq]
theorem betB_no {f g : Nat → Int32} {m : Nat} (h : ¬ bet f g m) : betB f g m = false := by
  cases hb : betB f g m with
  | false => rfl
  | true => exact absurd (betB_iff.mp hb) h
theorem betB_congr {f g f' g' : Nat → Int32} {m : Nat} (hf : ∀ c, c < m → f c = f' c) (hg : ∀ c, c < m → g c = g' c) : betB f g m = betB f' g' m := by
  cases hb : betB f' g' m with
  | false => exact betB_no (fun q => by rw [betB_iff.mpr ((bet_congr hf hg).mp q)] at hb; cases hb)
  | true => exact betB_iff.mpr ((bet_congr hf hg).mpr (betB_iff.mp hb))
def kap (K : Nat → Nat → Int32) (m : Nat) (C : Nat → Bool) (n a : Nat) : Nat := ct (fun z => C z && betB (K z) (K a) m) n
section Kap
variable {K : Nat → Nat → Int32} {m n : Nat} {C : Nat → Bool} {a b : Nat}
theorem kap_eq (h : fa (K a) (K b) m = m) : kap K m C n a = kap K m C n b := ct_congr (fun j _ => by rw [betB_congr (fun c _ => rfl) (fa_all.mp h)])
theorem kap_lt (ha : a < n) (hC : C a = true) (h : bet (K a) (K b) m) : kap K m C n a < kap K m C n b := by
  refine ct_lt (a := a) (fun j hj hp => ?_) ha ?_ ?_
  · simp only [Bool.and_eq_true] at hp ⊢
    exact ⟨hp.1, betB_iff.mpr (bet_tr (betB_iff.mp hp.2) h)⟩
  · rw [betB_no (bet_irr _ _), Bool.and_false]
  · rw [hC, betB_iff.mpr h]; rfl
theorem kap_bet (ha : a < n) (hC : C a = true) (hb : b < n) (hCb : C b = true) : bet (K a) (K b) m ↔ kap K m C n a < kap K m C n b := by
  constructor
  · exact kap_lt ha hC
  · intro h
    by_cases hf : fa (K a) (K b) m = m
    · rw [kap_eq hf] at h; omega
    · rcases bet_tot hf with q | q
      · exact q
      · have := kap_lt (C := C) hb hCb q; omega
theorem kap_fa (ha : a < n) (hC : C a = true) (hb : b < n) (hCb : C b = true) : fa (K a) (K b) m = m ↔ kap K m C n a = kap K m C n b := by
  constructor
  · exact kap_eq
  · intro h
    refine Classical.byContradiction fun hf => ?_
    rcases bet_tot hf with q | q
    · have := kap_lt (C := C) ha hC q; omega
    · have := kap_lt (C := C) hb hCb q; omega
theorem kap_size (ha : a < n) (hC : C a = true) : kap K m C n a < ct C n := by
  refine ct_lt (a := a) (fun j hj hp => ?_) ha ?_ hC
  · simp only [Bool.and_eq_true] at hp
    exact hp.1
  · rw [betB_no (bet_irr _ _), Bool.and_false]
theorem kap_congr {K' : Nat → Nat → Int32} {C' : Nat → Bool} (hC : ∀ j, j < n → C j = C' j) (hK : ∀ z, z < n → ∀ c, c < m → K z c = K' z c) (ha : a < n) : kap K m C n a = kap K' m C' n a :=
  ct_congr (fun j hj => by rw [hC j hj, betB_congr (hK j hj) (hK a ha)])
end Kap
/-! classes of tied teams -/
def rsC (S : Nat → Nat → Int32) (n : Nat) (C : Nat → Bool) (f : Int32 → Int32 → Int32) (a : Nat) : Int32 := sumN (fun j => if C j = true ∧ ¬ S a j = -1 then f (S a j) (S j a) else 0) n
theorem rsC_congr {S : Nat → Nat → Int32} {n : Nat} {C C' : Nat → Bool} {f : Int32 → Int32 → Int32} {a : Nat} (h : ∀ j, j < n → C j = C' j) : rsC S n C f a = rsC S n C' f a := sumN_congr (fun j hj => by rw [h j hj])
def k3 (S : Nat → Nat → Int32) (n : Nat) (C : Nat → Bool) (a c : Nat) : Int32 := if c = 0 then rsC S n C pF a else if c = 1 then rsC S n C dF a else rsC S n C gF9 a
theorem k3_congr {S : Nat → Nat → Int32} {n : Nat} {C C' : Nat → Bool} (h : ∀ j, j < n → C j = C' j) (a c : Nat) : k3 S n C a c = k3 S n C' a c := by
  unfold k3
  rw [rsC_congr h, rsC_congr h, rsC_congr h]
def alk (S : Nat → Nat → Int32) (n : Nat) (C : Nat → Bool) (a z : Nat) : Bool := C z && decide (fa (k3 S n C a) (k3 S n C z) 3 = 3)
theorem alk_congr {S : Nat → Nat → Int32} {n : Nat} {C C' : Nat → Bool} (h : ∀ j, j < n → C j = C' j) (a : Nat) : ∀ z, z < n → alk S n C a z = alk S n C' a z := by
  intro z hz
  unfold alk
  rw [h z hz, fa_congr (fun c _ => k3_congr h a c) (fun c _ => k3_congr h z c)]
/-- all of a class are alike -/
def ALb (S : Nat → Nat → Int32) (n : Nat) (C : Nat → Bool) : Bool := (List.range n).all fun x => (List.range n).all fun z => !C x || !C z || decide (fa (k3 S n C x) (k3 S n C z) 3 = 3)
theorem ALb_iff {S : Nat → Nat → Int32} {n : Nat} {C : Nat → Bool} : ALb S n C = true ↔ ∀ x z, x < n → z < n → C x = true → C z = true → fa (k3 S n C x) (k3 S n C z) 3 = 3 := by
  unfold ALb
  simp only [List.all_eq_true, List.mem_range, Bool.or_eq_true, Bool.not_eq_true', decide_eq_true_eq]
  constructor
  · intro h x z hx hz h1 h2
    rcases h x hx z hz with (h3 | h3) | h3
    · rw [h1] at h3; cases h3
    · rw [h2] at h3; cases h3
    · exact h3
  · intro h x hx z hz
    cases h1 : C x with
    | false => exact Or.inl (Or.inl rfl)
    | true =>
      cases h2 : C z with
      | false => exact Or.inl (Or.inr rfl)
      | true => exact Or.inr (h x z hx hz h1 h2)
theorem ALb_congr {S : Nat → Nat → Int32} {n : Nat} {C C' : Nat → Bool} (h : ∀ j, j < n → C j = C' j) : ALb S n C = ALb S n C' := by
  have e : ∀ {A B : Nat → Bool}, (∀ j, j < n → A j = B j) → ALb S n A = true → ALb S n B = true := by
    intro A B hAB hA
    rw [ALb_iff] at hA ⊢
    intro x z hx hz h1 h2
    rw [← hAB x hx] at h1
    rw [← hAB z hz] at h2
    rw [← fa_congr (fun c _ => k3_congr hAB x c) (fun c _ => k3_congr hAB z c)]
    exact hA x z hx hz h1 h2
  cases h1 : ALb S n C with
  | true => exact (e h h1).symm
  | false =>
    cases h2 : ALb S n C' with
    | false => rfl
    | true => rw [e (fun j hj => (h j hj).symm) h2] at h1; cases h1
/-- how many places behind the first of its class a team comes to stand; K: the marks that count when all are alike -/
def POS (S : Nat → Nat → Int32) (n : Nat) (K : Nat → Nat → Int32) : Nat → (Nat → Bool) → Nat → Nat
  | 0, _, _ => 0
  | f + 1, C, a => if ALb S n C = true then kap K 4 C n a else kap (k3 S n C) 3 C n a + POS S n K f (alk S n C a) a
theorem POS_congr {S : Nat → Nat → Int32} {n : Nat} {K : Nat → Nat → Int32} : ∀ (f : Nat) {C C' : Nat → Bool} {a : Nat}, (∀ j, j < n → C j = C' j) → a < n → POS S n K f C a = POS S n K f C' a
  | 0, _, _, _, _, _ => rfl
  | f + 1, C, C', a, h, ha => by
    unfold POS
    rw [ALb_congr h, kap_congr h (fun _ _ _ _ => rfl) ha, kap_congr (K := k3 S n C) (K' := k3 S n C') h (fun z _ c _ => k3_congr h z c) ha, POS_congr f (alk_congr h a) ha]
/-- the rule by which two of a class are told apart -/
def RUL (S : Nat → Nat → Int32) (n : Nat) (K : Nat → Nat → Int32) : Nat → (Nat → Bool) → Nat → Nat → Nat
  | 0, _, _, _ => 0
  | f + 1, C, a, b => if fa (k3 S n C a) (k3 S n C b) 3 < 3 then 1 + fa (k3 S n C a) (k3 S n C b) 3 else if ALb S n C = true then 4 + fa (K a) (K b) 4 else RUL S n K f (alk S n C a) a b
theorem RUL_congr {S : Nat → Nat → Int32} {n : Nat} {K : Nat → Nat → Int32} : ∀ (f : Nat) {C C' : Nat → Bool} {a b : Nat}, (∀ j, j < n → C j = C' j) → RUL S n K f C a b = RUL S n K f C' a b
  | 0, _, _, _, _, _ => rfl
  | f + 1, C, C', a, b, h => by
    unfold RUL
    rw [ALb_congr h, fa_congr (fun c _ => k3_congr h a c) (fun c _ => k3_congr h b c), RUL_congr f (alk_congr h a)]
theorem POS_one {S : Nat → Nat → Int32} {n : Nat} {K : Nat → Nat → Int32} {f : Nat} {C : Nat → Bool} {a : Nat} (h : ∀ z, z < n → C z = true → z = a) : POS S n K f C a = 0 := by
  cases f with
  | zero => rfl
  | succ f =>
    have hA : ALb S n C = true := ALb_iff.mpr (fun x z hx hz h1 h2 => by rw [h x hx h1, h z hz h2]; exact fa_all.mpr (fun _ _ => rfl))
    unfold POS
    rw [if_pos hA]
    refine ct_zero (fun j hj => ?_)
    cases hc : C j with
    | false => rfl
    | true => rw [h j hj hc, betB_no (bet_irr _ _)]; rfl
