/-! classes that are split come to the places -/
section Rkm
variable {n : Nat} {S K : Nat → Nat → Int32} {P : Nat → Int32}
theorem alk_ct {C : Nat → Bool} {a : Nat} (ha : a < n) (hC : C a = true) (hA : ¬ ALb S n C = true) : ct (alk S n C a) n < ct C n := by
  have : ∃ z, z < n ∧ C z = true ∧ ¬ fa (k3 S n C a) (k3 S n C z) 3 = 3 := by
    refine Classical.byContradiction fun hno => hA (ALb_iff.mpr fun x z hx hz cx cz => ?_)
    have h1 : fa (k3 S n C a) (k3 S n C x) 3 = 3 := Classical.byContradiction fun w => hno ⟨x, hx, cx, w⟩
    have h2 : fa (k3 S n C a) (k3 S n C z) 3 = 3 := Classical.byContradiction fun w => hno ⟨z, hz, cz, w⟩
    exact fa_all.mpr fun c hc => (fa_all.mp h1 c hc).symm.trans (fa_all.mp h2 c hc)
  obtain ⟨z, hz, cz, hne⟩ := this
  refine ct_lt (a := z) (fun j _ hj => ?_) hz ?_ cz
  · unfold alk at hj
    rw [Bool.and_eq_true] at hj
    exact hj.1
  · unfold alk
    rw [decide_eq_false hne, Bool.and_false]
theorem ct_pos {p : Nat → Bool} {a : Nat} (ha : a < n) (h : p a = true) : 0 < ct p n := by
  have := ct_lt (p := fun _ => false) (q := p) (a := a) (n := n) (fun j _ hj => by cases hj) ha rfl h
  omega
theorem alk_self {C : Nat → Bool} {a : Nat} (hC : C a = true) : alk S n C a a = true := by
  unfold alk
  rw [hC, decide_eq_true (fa_all.mpr fun _ _ => rfl)]
  rfl
theorem POS_fuel : ∀ (f : Nat) {C : Nat → Bool} {a : Nat}, a < n → C a = true → ct C n ≤ f → POS S n K (f + 1) C a = POS S n K f C a
  | 0, C, a, ha, hC, hf => by have := ct_pos ha hC; omega
  | f + 1, C, a, ha, hC, hf => by
    show (if ALb S n C = true then kap K 4 C n a else kap (k3 S n C) 3 C n a + POS S n K (f + 1) (alk S n C a) a) = (if ALb S n C = true then kap K 4 C n a else kap (k3 S n C) 3 C n a + POS S n K f (alk S n C a) a)
    by_cases hA : ALb S n C = true
    · rw [if_pos hA, if_pos hA]
    · rw [if_neg hA, if_neg hA, POS_fuel f ha (alk_self hC) (by have := alk_ct ha hC hA; omega)]
theorem RUL_fuel : ∀ (f : Nat) {C : Nat → Bool} {a b : Nat}, a < n → C a = true → ct C n ≤ f → RUL S n K (f + 1) C a b = RUL S n K f C a b
  | 0, C, a, b, ha, hC, hf => by have := ct_pos ha hC; omega
  | f + 1, C, a, b, ha, hC, hf => by
    show (if fa (k3 S n C a) (k3 S n C b) 3 < 3 then 1 + fa (k3 S n C a) (k3 S n C b) 3 else if ALb S n C = true then 4 + fa (K a) (K b) 4 else RUL S n K (f + 1) (alk S n C a) a b) = (if fa (k3 S n C a) (k3 S n C b) 3 < 3 then 1 + fa (k3 S n C a) (k3 S n C b) 3 else if ALb S n C = true then 4 + fa (K a) (K b) 4 else RUL S n K f (alk S n C a) a b)
    by_cases hA : ALb S n C = true
    · rw [if_pos hA, if_pos hA]
    · rw [if_neg hA, if_neg hA, RUL_fuel f ha (alk_self hC) (by have := alk_ct ha hC hA; omega)]
def clsR (rk : Nat → Nat) (k z : Nat) : Bool := decide (rk z = rk k)
def INV (S K : Nat → Nat → Int32) (P : Nat → Int32) (n : Nat) (rk : Nat → Nat) (ap : Nat → Nat → Nat) : Prop := (∀ k, k < n → rk k + POS S n K 5 (clsR rk k) k = PT S n K P k) ∧ (∀ a b, a < n → b < n → a ≠ b → (rk a = rk b → RUL S n K 5 (clsR rk a) a b = RT S n K P a b) ∧ (rk a ≠ rk b → ap a b = RT S n K P a b)) ∧ ∀ k, k < n → rk k = ct (fun z => decide (rk z < rk k)) n
/-- how far a team falls behind in its class -/
def kpp (S K : Nat → Nat → Int32) (n : Nat) (C : Nat → Bool) (k : Nat) : Nat := if ALb S n C = true then kap K 4 C n k else kap (k3 S n C) 3 C n k
theorem rkN_out {C : Nat → Bool} {rk : Nat → Nat} {k : Nat} (hC : ¬ C k = true) : rkN S K n C rk k = rk k := by
  unfold rkN
  rw [ct_zero (fun o _ => ?_), Nat.add_zero]
  unfold RR
  rw [if_neg (fun w => hC w.2.1)]
  rfl
theorem rkN_in {C : Nat → Bool} {rk : Nat → Nat} {k : Nat} (hK : ∀ a b, a < n → b < n → a ≠ b → ¬ fa (K a) (K b) 4 = 4) (hk : k < n) (hC : C k = true) : rkN S K n C rk k = rk k + kpp S K n C k := by
  unfold rkN kpp
  have e0 : decide ((0 : Int32) < 0) = false := rfl
  by_cases hA : ALb S n C = true
  · rw [if_pos hA]
    refine congrArg _ (ct_congr fun o ho => ?_)
    unfold RR
    by_cases hc : o ≠ k ∧ C k = true ∧ C o = true
    · rw [if_pos hc, if_pos hA, hc.2.2, Bool.true_and, Bool.eq_iff_iff, decide_eq_true_eq, (sgR_lt (by decide) (by decide)).1, betB_iff, betB_iff]
      constructor
      · intro w
        exact (bet_tot (hK k o hk ho (fun e => hc.1 e.symm))).resolve_left w
      · exact fun w => bet_asym w
    · rw [if_neg hc, e0]
      by_cases hok : o = k
      · rw [hok, betB_no (bet_irr _ _), Bool.and_false]
      · cases hco : C o with
        | false => rfl
        | true => exact absurd ⟨hok, hC, hco⟩ hc
  · rw [if_neg hA]
    refine congrArg _ (ct_congr fun o ho => ?_)
    unfold RR
    by_cases hc : o ≠ k ∧ C k = true ∧ C o = true
    · rw [if_pos hc, if_neg hA, hc.2.2, Bool.true_and]
      by_cases hf : fa (k3 S n C k) (k3 S n C o) 3 = 3
      · rw [if_pos hf, e0, betB_no (fun w => bet_fa w (by rw [fa_comm]; exact hf))]
      · rw [if_neg hf, Bool.eq_iff_iff, decide_eq_true_eq, (sgR_lt (by decide) (by decide)).1, betB_iff, betB_iff]
        constructor
        · intro w
          exact (bet_tot hf).resolve_left w
        · exact fun w => bet_asym w
    · rw [if_neg hc, e0]
      by_cases hok : o = k
      · rw [hok, betB_no (bet_irr _ _), Bool.and_false]
      · cases hco : C o with
        | false => rfl
        | true => exact absurd ⟨hok, hC, hco⟩ hc
theorem kpp_size {C : Nat → Bool} {k : Nat} (hk : k < n) (hC : C k = true) : kpp S K n C k < ct C n := by
  unfold kpp
  split
  · exact kap_size hk hC
  · exact kap_size hk hC
theorem kpp_ct {C : Nat → Bool} {k : Nat} (hk : k < n) (hC : C k = true) : ct (fun z => C z && decide (kpp S K n C z < kpp S K n C k)) n = kpp S K n C k := by
  unfold kpp
  by_cases hA : ALb S n C = true
  · simp only [if_pos hA]
    refine Eq.trans (ct_congr fun z hz => ?_) (rfl : kap K 4 C n k = kap K 4 C n k)
    cases hc : C z with
    | false => rfl
    | true =>
      rw [Bool.true_and, Bool.true_and, Bool.eq_iff_iff, decide_eq_true_eq, betB_iff]
      exact (kap_bet hz hc hk hC).symm
  · simp only [if_neg hA]
    refine Eq.trans (ct_congr fun z hz => ?_) (rfl : kap (k3 S n C) 3 C n k = kap (k3 S n C) 3 C n k)
    cases hc : C z with
    | false => rfl
    | true =>
      rw [Bool.true_and, Bool.true_and, Bool.eq_iff_iff, decide_eq_true_eq, betB_iff]
      exact (kap_bet hz hc hk hC).symm
theorem kpp_eq {C : Nat → Bool} {a b : Nat} (hK : ∀ a b, a < n → b < n → a ≠ b → ¬ fa (K a) (K b) 4 = 4) (ha : a < n) (hCa : C a = true) (hb : b < n) (hCb : C b = true) : kpp S K n C a = kpp S K n C b ↔ (if ALb S n C = true then a = b else fa (k3 S n C a) (k3 S n C b) 3 = 3) := by
  unfold kpp
  by_cases hA : ALb S n C = true
  · rw [if_pos hA, if_pos hA, if_pos hA, ← kap_fa ha hCa hb hCb]
    constructor
    · intro w
      exact Classical.byContradiction fun hne => hK a b ha hb hne w
    · rintro rfl
      exact fa_all.mpr fun _ _ => rfl
  · rw [if_neg hA, if_neg hA, if_neg hA, ← kap_fa ha hCa hb hCb]
section Stp
variable {rk : Nat → Nat} {ap : Nat → Nat → Nat} {fr : Nat}
theorem INV.gap (h : INV S K P n rk ap) {k : Nat} (hk : k < n) (hkf : rk k = fr) {z : Nat} (hz : z < n) : rk z < fr ∨ rk z = fr ∨ fr + ct (fun z => decide (rk z = fr)) n ≤ rk z := by
  rcases Nat.lt_trichotomy (rk z) fr with w | w | w
  · exact Or.inl w
  · exact Or.inr (Or.inl w)
  · refine Or.inr (Or.inr ?_)
    have e1 := h.2.2 k hk
    have e2 := h.2.2 z hz
    rw [hkf] at e1
    have e3 : ct (fun z => decide (rk z < fr) || decide (rk z = fr)) n = ct (fun z => decide (rk z < fr)) n + ct (fun z => decide (rk z = fr)) n := ct_add (fun j _ => by
      rw [decide_eq_true_eq, decide_eq_true_eq]
      omega)
    have e4 : ct (fun z => decide (rk z < fr) || decide (rk z = fr)) n ≤ ct (fun z' => decide (rk z' < rk z)) n := ct_mono (fun j _ hj => by
      rw [Bool.or_eq_true, decide_eq_true_eq, decide_eq_true_eq] at hj
      rw [decide_eq_true_eq]
      omega)
    omega
theorem INV.split (h : INV S K P n rk ap) (hn : n ≤ 5) (hK : ∀ a b, a < n → b < n → a ≠ b → ¬ fa (K a) (K b) 4 = 4) {C : Nat → Bool} (hC : C = fun k => decide (rk k = fr)) : INV S K P n (rkN S K n C rk) (apN S K n C ap) := by
  have hCi : ∀ k, C k = true ↔ rk k = fr := fun k => by rw [hC, decide_eq_true_eq]
  have hin : ∀ k, k < n → C k = true → rkN S K n C rk k = fr + kpp S K n C k := fun k hk hc => by rw [rkN_in hK hk hc, (hCi k).mp hc]
  have hout : ∀ k, ¬ C k = true → rkN S K n C rk k = rk k := fun k hc => rkN_out hc
  have hgap : ∀ k z, k < n → z < n → C k = true → ¬ C z = true → rk z < fr ∨ fr + ct C n ≤ rk z := fun k z hk hz hck hcz => by
    have := h.gap hk ((hCi k).mp hck) hz
    rw [← hC] at this
    have h9 : ¬ rk z = fr := fun w => hcz ((hCi z).mpr w)
    omega
  have hcc : ∀ k, k < n → C k = true → ∀ z, clsR rk k z = C z := fun k hk hc z => by
    unfold clsR
    rw [(hCi k).mp hc, hC]
  -- the new classes
  have cin : ∀ k, k < n → C k = true → ∀ z, z < n → (clsR (rkN S K n C rk) k z = true ↔ C z = true ∧ kpp S K n C z = kpp S K n C k) := fun k hk hc z hz => by
    unfold clsR
    rw [decide_eq_true_eq, hin k hk hc]
    by_cases hcz : C z = true
    · rw [hin z hz hcz]
      exact ⟨fun w => ⟨hcz, by omega⟩, fun w => by omega⟩
    · rw [hout z hcz]
      have := hgap k z hk hz hc hcz
      have := kpp_size (S := S) (K := K) hk hc
      exact ⟨fun w => by omega, fun w => absurd w.1 hcz⟩
  have cout : ∀ k, k < n → ¬ C k = true → ∀ z, z < n → clsR (rkN S K n C rk) k z = clsR rk k z := fun k hk hc z hz => by
    unfold clsR
    rw [hout k hc]
    by_cases hcz : C z = true
    · have := hgap z k hz hk hcz hc
      have := kpp_size (S := S) (K := K) hz hcz
      rw [hin z hz hcz, (hCi z).mp hcz, decide_eq_false (by omega), decide_eq_false (by omega)]
    · rw [hout z hcz]
  have c4 : ¬ ALb S n C = true → ∀ k, k < n → C k = true → (∀ z, z < n → clsR (rkN S K n C rk) k z = alk S n C k z) ∧ ct (alk S n C k) n ≤ 4 := fun hA k hk hc => by
    refine ⟨fun z hz => ?_, ?_⟩
    · rw [Bool.eq_iff_iff, cin k hk hc z hz]
      unfold alk
      rw [Bool.and_eq_true, decide_eq_true_eq]
      constructor
      · rintro ⟨w1, w2⟩
        have := (kpp_eq hK hz w1 hk hc).mp w2
        rw [if_neg hA] at this
        exact ⟨w1, by rw [fa_comm]; exact this⟩
      · rintro ⟨w1, w2⟩
        refine ⟨w1, (kpp_eq hK hz w1 hk hc).mpr ?_⟩
        rw [if_neg hA, fa_comm]
        exact w2
    · have := alk_ct (S := S) hk hc hA
      have := ct_le C n
      omega
  refine ⟨fun k hk => ?_, fun a b ha hb hne => ?_, fun k hk => ?_⟩
  · by_cases hc : C k = true
    · have h1 := h.1 k hk
      rw [POS_congr 5 (fun z _ => hcc k hk hc z) hk, (hCi k).mp hc] at h1
      rw [hin k hk hc]
      have e5 : POS S n K 5 C k = if ALb S n C = true then kap K 4 C n k else kap (k3 S n C) 3 C n k + POS S n K 4 (alk S n C k) k := rfl
      rw [e5] at h1
      by_cases hA : ALb S n C = true
      · rw [if_pos hA] at h1
        rw [POS_one (fun z hz hcl => by
          have := (cin k hk hc z hz).mp hcl
          have h2 := (kpp_eq hK hz this.1 hk hc).mp this.2
          rw [if_pos hA] at h2
          exact h2), kpp, if_pos hA]
        omega
      · rw [if_neg hA] at h1
        obtain ⟨q1, q2⟩ := c4 hA k hk hc
        rw [POS_congr 5 q1 hk, POS_fuel 4 hk (alk_self hc) q2, kpp, if_neg hA]
        omega
    · rw [hout k hc, POS_congr 5 (cout k hk hc) hk]
      exact h.1 k hk
  · obtain ⟨i1, i2⟩ := h.2.1 a b ha hb hne
    by_cases hab : C a = true ∧ C b = true
    · have hr : rk a = rk b := by rw [(hCi a).mp hab.1, (hCi b).mp hab.2]
      have i1 := i1 hr
      rw [RUL_congr 5 (fun z _ => hcc a ha hab.1 z)] at i1
      have e5 : RUL S n K 5 C a b = if fa (k3 S n C a) (k3 S n C b) 3 < 3 then 1 + fa (k3 S n C a) (k3 S n C b) 3 else if ALb S n C = true then 4 + fa (K a) (K b) 4 else RUL S n K 4 (alk S n C a) a b := rfl
      rw [e5] at i1
      have hcond : b ≠ a ∧ C a = true ∧ C b = true := ⟨fun e => hne e.symm, hab.1, hab.2⟩
      have hkk := kpp_eq (S := S) hK ha hab.1 hb hab.2
      have fle := fa_le (k3 S n C a) (k3 S n C b) 3
      by_cases hA : ALb S n C = true
      · have hf : fa (k3 S n C a) (k3 S n C b) 3 = 3 := ALb_iff.mp hA a b ha hb hab.1 hab.2
        rw [if_pos hA] at hkk
        rw [if_neg (by omega), if_pos hA] at i1
        refine ⟨fun w => ?_, fun _ => ?_⟩
        · rw [hin a ha hab.1, hin b hb hab.2] at w
          exact absurd (hkk.mp (by omega)) hne
        · unfold apN
          rw [if_pos hcond, if_pos hA]
          exact i1
      · rw [if_neg hA] at hkk
        obtain ⟨q1, q2⟩ := c4 hA a ha hab.1
        by_cases hf : fa (k3 S n C a) (k3 S n C b) 3 = 3
        · rw [if_neg (by omega), if_neg hA] at i1
          refine ⟨fun _ => ?_, fun w => ?_⟩
          · rw [RUL_congr 5 q1, RUL_fuel 4 ha (alk_self hab.1) q2]
            exact i1
          · rw [hin a ha hab.1, hin b hb hab.2] at w
            exact absurd (hkk.mpr hf) (by omega)
        · rw [if_pos (by omega)] at i1
          refine ⟨fun w => ?_, fun _ => ?_⟩
          · rw [hin a ha hab.1, hin b hb hab.2] at w
            exact absurd (hkk.mp (by omega)) hf
          · unfold apN
            rw [if_pos hcond, if_neg hA, if_neg hf]
            exact i1
    · have eap : apN S K n C ap a b = ap a b := by
        unfold apN
        rw [if_neg (fun w => hab w.2)]
      have erk : rkN S K n C rk a = rkN S K n C rk b ↔ rk a = rk b := by
        by_cases hca : C a = true
        · have hcb : ¬ C b = true := fun w => hab ⟨hca, w⟩
          have := hgap a b ha hb hca hcb
          have := kpp_size (S := S) (K := K) ha hca
          rw [hin a ha hca, hout b hcb, (hCi a).mp hca]
          constructor <;> intro w <;> omega
        · by_cases hcb : C b = true
          · have := hgap b a hb ha hcb hca
            have := kpp_size (S := S) (K := K) hb hcb
            rw [hin b hb hcb, hout a hca, (hCi b).mp hcb]
            constructor <;> intro w <;> omega
          · rw [hout a hca, hout b hcb]
      refine ⟨fun w => ?_, fun w => ?_⟩
      · have w2 := erk.mp w
        have hca : ¬ C a = true := fun q => hab ⟨q, (hCi b).mpr (by rw [← w2]; exact (hCi a).mp q)⟩
        rw [RUL_congr 5 (cout a ha hca)]
        exact i1 w2
      · rw [eap]
        exact i2 (fun q => w (erk.mpr q))
  · by_cases hc : C k = true
    · rw [hin k hk hc]
      have e1 := h.2.2 k hk
      rw [(hCi k).mp hc] at e1
      have e2 : ct (fun z => decide (rk z < fr) || (C z && decide (kpp S K n C z < kpp S K n C k))) n = ct (fun z => decide (rk z < fr)) n + ct (fun z => C z && decide (kpp S K n C z < kpp S K n C k)) n := ct_add (fun j _ => by
        rw [decide_eq_true_eq, Bool.and_eq_true]
        rintro ⟨w1, w2, w3⟩
        have := (hCi j).mp w2
        omega)
      rw [kpp_ct hk hc] at e2
      have e3 : ct (fun z => decide (rkN S K n C rk z < fr + kpp S K n C k)) n = ct (fun z => decide (rk z < fr) || (C z && decide (kpp S K n C z < kpp S K n C k))) n := ct_congr (fun z hz => by
        rw [Bool.eq_iff_iff, decide_eq_true_eq, Bool.or_eq_true, decide_eq_true_eq, Bool.and_eq_true, decide_eq_true_eq]
        by_cases hcz : C z = true
        · rw [hin z hz hcz, (hCi z).mp hcz]
          constructor
          · intro w; exact Or.inr ⟨hcz, by omega⟩
          · rintro (w | w) <;> omega
        · have := hgap k z hk hz hc hcz
          have := kpp_size (S := S) (K := K) hk hc
          rw [hout z hcz]
          constructor
          · intro w; exact Or.inl (by omega)
          · rintro (w | w)
            · omega
            · exact absurd w.1 hcz)
      omega
    · have e1 := h.2.2 k hk
      rw [hout k hc, e1]
      refine ct_congr fun z hz => ?_
      rw [← e1, Bool.eq_iff_iff, decide_eq_true_eq, decide_eq_true_eq]
      by_cases hcz : C z = true
      · have := hgap z k hz hk hcz hc
        have := kpp_size (S := S) (K := K) hz hcz
        rw [hin z hz hcz, (hCi z).mp hcz]
        omega
      · rw [hout z hcz]
end Stp
def sumR (rk : Nat → Nat) : Nat → Nat
  | 0 => 0
  | k + 1 => sumR rk k + rk k
theorem sumR_le {r r' : Nat → Nat} : ∀ {m}, (∀ k, k < m → r k ≤ r' k) → sumR r m ≤ sumR r' m
  | 0, _ => Nat.le_refl _
  | m + 1, h => by
    have := sumR_le (m := m) (fun k hk => h k (by omega))
    have := h m (by omega)
    show sumR r m + r m ≤ sumR r' m + r' m
    omega
theorem sumR_lt {r r' : Nat → Nat} {a : Nat} : ∀ {m}, (∀ k, k < m → r k ≤ r' k) → a < m → r a < r' a → sumR r m < sumR r' m
  | m + 1, h, ha, hl => by
    have h1 := sumR_le (m := m) (fun k hk => h k (by omega))
    have h2 := h m (by omega)
    show sumR r m + r m < sumR r' m + r' m
    by_cases hm : a = m
    · subst hm; omega
    · have := sumR_lt (m := m) (fun k hk => h k (by omega)) (by omega) hl
      omega
theorem sumR_bd {r : Nat → Nat} {B : Nat} : ∀ {m}, (∀ k, k < m → r k ≤ B) → sumR r m ≤ m * B
  | 0, _ => by simp [sumR]
  | m + 1, h => by
    have := sumR_bd (m := m) (fun k hk => h k (by omega))
    have := h m (by omega)
    show sumR r m + r m ≤ (m + 1) * B
    rw [Nat.add_mul]
    omega
theorem rkN_le {C : Nat → Bool} {rk : Nat → Nat} (k : Nat) : rk k ≤ rkN S K n C rk k := Nat.le_add_right _ _
/-- a class of several teams is split -/
theorem rkN_more (hK : ∀ a b, a < n → b < n → a ≠ b → ¬ fa (K a) (K b) 4 = 4) {C : Nat → Bool} {rk : Nat → Nat} (h : 1 < ct C n) : sumR rk n < sumR (rkN S K n C rk) n := by
  have h2 : ∃ a b, a < n ∧ b < n ∧ C a = true ∧ C b = true ∧ kpp S K n C a ≠ kpp S K n C b := by
    by_cases hA : ALb S n C = true
    · have : ∃ a b, a < n ∧ b < n ∧ C a = true ∧ C b = true ∧ a ≠ b := by
        refine Classical.byContradiction fun hno => ?_
        have h1 : ∃ a, a < n ∧ C a = true := Classical.byContradiction fun hno2 => by
          rw [ct_zero (fun j hj => by
            cases hc : C j with
            | false => rfl
            | true => exact absurd ⟨j, hj, hc⟩ hno2)] at h
          omega
        obtain ⟨a, ha, hca⟩ := h1
        rw [ct_one (p := C) ha (fun j hj => ⟨fun w => Classical.byContradiction fun hne => hno ⟨j, a, hj, ha, w, hca, hne⟩, fun w => by rw [w]; exact hca⟩)] at h
        omega
      obtain ⟨a, b, ha, hb, hca, hcb, hne⟩ := this
      refine ⟨a, b, ha, hb, hca, hcb, fun w => ?_⟩
      have := (kpp_eq (S := S) hK ha hca hb hcb).mp w
      rw [if_pos hA] at this
      exact hne this
    · have : ∃ a b, a < n ∧ b < n ∧ C a = true ∧ C b = true ∧ ¬ fa (k3 S n C a) (k3 S n C b) 3 = 3 := by
        refine Classical.byContradiction fun hno => hA (ALb_iff.mpr fun x z hx hz cx cz => Classical.byContradiction fun w => hno ⟨x, z, hx, hz, cx, cz, w⟩)
      obtain ⟨a, b, ha, hb, hca, hcb, hne⟩ := this
      refine ⟨a, b, ha, hb, hca, hcb, fun w => ?_⟩
      have := (kpp_eq (S := S) hK ha hca hb hcb).mp w
      rw [if_neg hA] at this
      exact hne this
  obtain ⟨a, b, ha, hb, hca, hcb, hne⟩ := h2
  by_cases hpos : 0 < kpp S K n C a
  · exact sumR_lt (fun k _ => rkN_le k) ha (by rw [rkN_in hK ha hca]; omega)
  · exact sumR_lt (fun k _ => rkN_le k) hb (by rw [rkN_in hK hb hcb]; omega)
/-- a class of one team stays -/
theorem rkN_same (hK : ∀ a b, a < n → b < n → a ≠ b → ¬ fa (K a) (K b) 4 = 4) {C : Nat → Bool} {rk : Nat → Nat} (h : ¬ 1 < ct C n) {k : Nat} (hk : k < n) : rkN S K n C rk k = rk k := by
  by_cases hc : C k = true
  · have := kpp_size (S := S) (K := K) hk hc
    rw [rkN_in hK hk hc]
    omega
  · exact rkN_out hc
theorem INV.fin {rk : Nat → Nat} {ap : Nat → Nat → Nat} (h : INV S K P n rk ap) (h1 : ∀ f, f < n → ¬ 1 < ct (fun k => decide (rk k = f)) n) : ((∀ k, k < n → rk k < n) ∧ ∀ a b, a < n → b < n → rk a = rk b → a = b) ∧ (∀ k, k < n → rk k = PT S n K P k) ∧ ∀ a b, a < n → b < n → a ≠ b → ap a b = RT S n K P a b := by
  have hlt : ∀ k, k < n → rk k < n := fun k hk => by
    rw [h.2.2 k hk]
    have := ct_lt (p := fun z => decide (rk z < rk k)) (q := fun _ => true) (a := k) (n := n) (fun _ _ _ => rfl) hk (by simp) rfl
    have := ct_le (fun _ => true) n
    omega
  have hinj : ∀ a b, a < n → b < n → rk a = rk b → a = b := fun a b ha hb he => by
    refine Classical.byContradiction fun hne => h1 (rk a) (hlt a ha) ?_
    have h9 := ct_lt (p := fun z => decide (z = a)) (q := fun k => decide (rk k = rk a)) (a := b) (n := n) (fun j _ hj => by
      rw [decide_eq_true_eq] at hj
      rw [hj, decide_eq_true_eq]) hb (decide_eq_false (fun w => hne w.symm)) (by rw [decide_eq_true_eq]; exact he.symm)
    rw [ct_one (a := a) ha (fun j _ => by rw [decide_eq_true_eq])] at h9
    exact h9
  refine ⟨⟨hlt, hinj⟩, fun k hk => ?_, fun a b ha hb hne => (h.2.1 a b ha hb hne).2 (fun w => hne (hinj a b ha hb w))⟩
  have := h.1 k hk
  rw [POS_one (fun z hz hcl => by
    unfold clsR at hcl
    rw [decide_eq_true_eq] at hcl
    exact hinj z k hz hk hcl)] at this
  exact this
/-- the ranks by points -/
theorem INV.init {ap : Nat → Nat → Nat} (hap : ∀ a b, a < n → b < n → ap a b = 0) : INV S K P n (kap (fun z _ => P z) 1 (fun _ => true) n) ap := by
  have hcl : ∀ k, k < n → ∀ z, z < n → clsR (kap (fun z _ => P z) 1 (fun _ => true) n) k z = alp P k z := fun k hk z hz => by
    unfold clsR alp
    rw [Bool.eq_iff_iff, decide_eq_true_eq, decide_eq_true_eq, ← kap_fa (K := fun z _ => P z) (m := 1) (C := fun _ => true) hz rfl hk rfl, fa_comm]
  refine ⟨fun k hk => ?_, fun a b ha hb hne => ⟨fun w => ?_, fun w => ?_⟩, fun k hk => ?_⟩
  · rw [POS_congr 5 (hcl k hk) hk]
    rfl
  · have hf := (kap_fa (K := fun z _ => P z) (m := 1) (C := fun _ => true) ha rfl hb rfl).mpr w
    rw [RUL_congr 5 (hcl a ha)]
    unfold RT
    rw [if_neg (by omega)]
  · have hf : ¬ fa (fun _ => P a) (fun _ => P b) 1 = 1 := fun q => w ((kap_fa (K := fun z _ => P z) (m := 1) (C := fun _ => true) ha rfl hb rfl).mp q)
    have := fa_le (fun _ => P a) (fun _ => P b) 1
    unfold RT
    rw [if_pos (by omega), hap a b ha hb]
    omega
  · refine ct_congr fun z hz => ?_
    rw [Bool.true_and, Bool.eq_iff_iff, betB_iff, decide_eq_true_eq]
    exact kap_bet (K := fun z _ => P z) (m := 1) (C := fun _ => true) hz rfl hk rfl
end Rkm
