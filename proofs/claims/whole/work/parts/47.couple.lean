/-! the class and the reference hold the same -/
section Cpl
variable {n : Nat} {S S' K K' : Nat → Nat → Int32} {P P' : Nat → Int32}
def SE (S S' : Nat → Nat → Int32) (n : Nat) : Prop := ∀ a b, a < n → b < n → S a b = S' a b
theorem rsC_S (h : SE S S' n) {C : Nat → Bool} {f : Int32 → Int32 → Int32} {a : Nat} (ha : a < n) : rsC S n C f a = rsC S' n C f a := sumN_congr fun j hj => by rw [h a j ha hj, h j a hj ha]
theorem k3_S (h : SE S S' n) {C : Nat → Bool} {a : Nat} (ha : a < n) (c : Nat) : k3 S n C a c = k3 S' n C a c := by
  unfold k3
  rw [rsC_S h ha, rsC_S h ha, rsC_S h ha]
theorem alk_S (h : SE S S' n) {C : Nat → Bool} {a z : Nat} (ha : a < n) (hz : z < n) : alk S n C a z = alk S' n C a z := by
  unfold alk
  rw [fa_congr (fun c _ => k3_S h ha c) (fun c _ => k3_S h hz c)]
theorem ALb_S (h : SE S S' n) {C : Nat → Bool} : ALb S n C = ALb S' n C := by
  rw [Bool.eq_iff_iff, ALb_iff, ALb_iff]
  constructor
  · intro w x z hx hz c1 c2
    rw [← fa_congr (fun c _ => k3_S h hx c) (fun c _ => k3_S h hz c)]
    exact w x z hx hz c1 c2
  · intro w x z hx hz c1 c2
    rw [fa_congr (fun c _ => k3_S h hx c) (fun c _ => k3_S h hz c)]
    exact w x z hx hz c1 c2
theorem POS_S (h : SE S S' n) (hK : ∀ z, z < n → ∀ c, c < 4 → K z c = K' z c) : ∀ (f : Nat) {C : Nat → Bool} {a : Nat}, a < n → POS S n K f C a = POS S' n K' f C a
  | 0, _, _, _ => rfl
  | f + 1, C, a, ha => by
    show (if ALb S n C = true then kap K 4 C n a else kap (k3 S n C) 3 C n a + POS S n K f (alk S n C a) a) = (if ALb S' n C = true then kap K' 4 C n a else kap (k3 S' n C) 3 C n a + POS S' n K' f (alk S' n C a) a)
    rw [ALb_S h, kap_congr (fun _ _ => rfl) hK ha, kap_congr (K := k3 S n C) (K' := k3 S' n C) (fun _ _ => rfl) (fun z hz c _ => k3_S h hz c) ha, POS_S h hK f ha, POS_congr f (fun j hj => alk_S h ha hj) ha]
theorem RUL_S (h : SE S S' n) (hK : ∀ z, z < n → ∀ c, c < 4 → K z c = K' z c) : ∀ (f : Nat) {C : Nat → Bool} {a b : Nat}, a < n → b < n → RUL S n K f C a b = RUL S' n K' f C a b
  | 0, _, _, _, _, _ => rfl
  | f + 1, C, a, b, ha, hb => by
    show (if fa (k3 S n C a) (k3 S n C b) 3 < 3 then 1 + fa (k3 S n C a) (k3 S n C b) 3 else if ALb S n C = true then 4 + fa (K a) (K b) 4 else RUL S n K f (alk S n C a) a b) = (if fa (k3 S' n C a) (k3 S' n C b) 3 < 3 then 1 + fa (k3 S' n C a) (k3 S' n C b) 3 else if ALb S' n C = true then 4 + fa (K' a) (K' b) 4 else RUL S' n K' f (alk S' n C a) a b)
    rw [ALb_S h, fa_congr (fun c _ => k3_S h ha c) (fun c _ => k3_S h hb c), fa_congr (hK a ha) (hK b hb), RUL_S h hK f ha hb, RUL_congr f (fun j hj => alk_S h ha hj)]
theorem alp_P (hP : ∀ z, z < n → P z = P' z) {a z : Nat} (ha : a < n) (hz : z < n) : alp P a z = alp P' a z := by
  unfold alp
  rw [hP a ha, hP z hz]
theorem PT_S (h : SE S S' n) (hK : ∀ z, z < n → ∀ c, c < 4 → K z c = K' z c) (hP : ∀ z, z < n → P z = P' z) {a : Nat} (ha : a < n) : PT S n K P a = PT S' n K' P' a := by
  unfold PT
  rw [POS_S h hK 5 ha, POS_congr 5 (fun j hj => alp_P hP ha hj) ha, kap_congr (K := fun z _ => P z) (K' := fun z _ => P' z) (fun _ _ => rfl) (fun z hz _ _ => hP z hz) ha]
theorem RT_S (h : SE S S' n) (hK : ∀ z, z < n → ∀ c, c < 4 → K z c = K' z c) (hP : ∀ z, z < n → P z = P' z) {a b : Nat} (ha : a < n) (hb : b < n) : RT S n K P a b = RT S' n K' P' a b := by
  unfold RT
  rw [RUL_S h hK 5 ha hb, RUL_congr 5 (fun j hj => alp_P hP ha hj), hP a ha, hP b hb]
theorem lfA_S (h : SE S S' n) : lfA S n = lfA S' n := by
  unfold lfA
  apply List.filter_congr
  intro p hp
  have := allQ_mem (q := n) (l := 0) (by omega) hp
  rw [h p.1 p.2 (by omega) this.2.2]
/-- the coupling -/
def CP (X : XT) (c : Nat) (bs nn : Nat → Nat) : Prop := ∀ i, i < c → SE (scM X (bs i)) (scC X (nI i)) (nn i) ∧ ∀ a, a < nn i → awM X (bs i) a = X.1 5 0 (nI i) (nI a) ∧ caM X (bs i) a = X.1 6 0 (nI i) (nI a) ∧ loM X (bs i) a = X.1 7 0 (nI i) (nI a)
section On
variable {X : XT} {c lp lt : Nat} {bs nn : Nat → Nat}
theorem CP.fr {K : List Nat} {X' : XT} (h : CP X c bs nn) (hf : Fr K X X') (h4 : 4 ∉ K) (h5 : 5 ∉ K) (h6 : 6 ∉ K) (h7 : 7 ∉ K) (h34 : 34 ∉ K) (h35 : 35 ∉ K) (h36 : 36 ∉ K) (h37 : 37 ∉ K) : CP X' c bs nn := fun i hi => by
  rw [scM_fr hf h37, scC_fr hf h4, awM_fr hf h34, caM_fr hf h35, loM_fr hf h36, hf.2 5 h5, hf.2 6 h6, hf.2 7 h7]
  exact h i hi
theorem CP.keys (h : CP X c bs nn) (hC : CI X c bs nn lp lt) {i : Nat} (hi : i < c) {a : Nat} (ha : a < nn i) (q : Nat) : KM X (bs i) (nn i) a q = K4 X (nI i) (nn i) a q := by
  obtain ⟨h1, h2⟩ := h i hi
  obtain ⟨-, h3, h4⟩ := h2 a ha
  unfold KM K4 lotMk
  rw [rsC_S h1 ha, rsC_S h1 ha, h3, h4, hC.g4 hi]
theorem CP.pnts (h : CP X c bs nn) {i : Nat} (hi : i < c) {a : Nat} (ha : a < nn i) : PM X (bs i) (nn i) a = PX X (nI i) (nn i) a := by
  obtain ⟨h1, h2⟩ := h i hi
  unfold PM PX
  rw [rsC_S h1 ha, (h2 a ha).1]
theorem CP.pt (h : CP X c bs nn) (hC : CI X c bs nn lp lt) {i : Nat} (hi : i < c) {a : Nat} (ha : a < nn i) : PTM X (bs i) (nn i) a = PTX X (nI i) (nn i) a := PT_S (h i hi).1 (fun z hz q _ => h.keys hC hi hz q) (fun z hz => h.pnts hi hz) ha
theorem CP.rt (h : CP X c bs nn) (hC : CI X c bs nn lp lt) {i : Nat} (hi : i < c) {a b : Nat} (ha : a < nn i) (hb : b < nn i) : RTM X (bs i) (nn i) a b = RTX X (nI i) (nn i) a b := RT_S (h i hi).1 (fun z hz q _ => h.keys hC hi hz q) (fun z hz => h.pnts hi hz) ha hb
theorem CP.lf (h : CP X c bs nn) {i : Nat} (hi : i < c) : lfA (scM X (bs i)) (nn i) = lfA (scC X (nI i)) (nn i) := lfA_S (h i hi).1
theorem CP.m5 (h : CP X c bs nn) (hC : CI X c bs nn lp lt) {i : Nat} (hi : i < c) {t : Nat → Nat} (ht : t i < nn i) {q : Nat} (hq : q < 5) : M5M X c bs nn i (t i) q = M5 X c nn t i q := by
  obtain ⟨h1, h2⟩ := h i hi
  obtain ⟨g1, g2, g3⟩ := h2 (t i) ht
  have hcl : ∀ j, j < nn i → decide (PTM X (bs i) (nn i) j < mnS nn c) = decide (PTX X (nI i) (nn i) j < mnS nn c) := fun j hj => by rw [h.pt hC hi hj]
  have hz : ∀ x : Int32, x - 0 = x := fun x => Int32.sub_zero x
  unfold M5M M5 TSM T5 fW3 lotMk
  rcases (show q = 0 ∨ q = 1 ∨ q = 2 ∨ q = 3 ∨ q = 4 by omega) with rfl | rfl | rfl | rfl | rfl
  · simp only [if_pos, show (0 : Nat) < 3 by decide]
    rw [rsC_S h1 ht, rsC_congr hcl, g1]
  · simp only [show (1 : Nat) < 3 by decide, if_true, show ¬ (1 : Nat) = 0 by decide, if_false, hz]
    rw [rsC_S h1 ht, rsC_congr hcl]
  · simp only [show (2 : Nat) < 3 by decide, if_true, show ¬ (2 : Nat) = 0 by decide, show ¬ (2 : Nat) = 1 by decide, if_false, hz]
    rw [rsC_S h1 ht, rsC_congr hcl]
  · simp only [show ¬ (3 : Nat) < 3 by decide, if_false, if_true, show ¬ (3 : Nat) = 0 by decide, show ¬ (3 : Nat) = 1 by decide, show ¬ (3 : Nat) = 2 by decide]
    rw [g2]
  · simp only [show ¬ (4 : Nat) < 3 by decide, if_false, show ¬ (4 : Nat) = 0 by decide, show ¬ (4 : Nat) = 1 by decide, show ¬ (4 : Nat) = 2 by decide, show ¬ (4 : Nat) = 3 by decide]
    rw [g3, hC.g4 hi]
theorem CP.rk (h : CP X c bs nn) (hC : CI X c bs nn lp lt) {i : Nat} (hi : i < c) {t : Nat → Nat} (ht : ∀ j, j < c → t j < nn j) : TRM X c bs nn t i = TRK X c nn t i := ct_congr fun z hz => betB_congr (fun q hq => h.m5 hC hz (ht z hz) hq) (fun q hq => h.m5 hC hi (ht i hi) hq)
end On
end Cpl
