/-! the same ways -/
section Cp2
variable {n w pl mg : Nat}
theorem psd_g {γ γ' : Nat → Int} (hw : w < n) (h : ∀ s, s < n → γ s = γ' s) : psd n w pl mg γ = psd n w pl mg γ' := by
  unfold psd
  rw [ct_congr (fun s hs => by rw [h s hs, h w hw])]
theorem gpl_g {γ γ' : Nat → Int} (h : ∀ s, s < n → γ s = γ' s) (p : Nat × Nat) (o : Nat) : ∀ s, s < n → gpl γ p o s = gpl γ' p o s := fun s hs => by
  unfold gpl ad1
  rw [h s hs]
theorem cntL_g (hw : w < n) : ∀ (R : List (Nat × Nat)) {γ γ' : Nat → Int}, (∀ s, s < n → γ s = γ' s) → cntL (psd n w pl mg) R γ = cntL (psd n w pl mg) R γ'
  | [], γ, γ', h => by rw [cntL, cntL, psd_g hw h]
  | p :: R, γ, γ', h => by
    rw [cntL, cntL]
    exact cn3_congr fun o => cntL_g hw R (gpl_g h p o)
theorem lowL_g (hw : w < n) : ∀ (R : List (Nat × Nat)) {γ γ' : Nat → Int}, (∀ s, s < n → γ s = γ' s) → lowL (psd n w pl mg) R γ = lowL (psd n w pl mg) R γ'
  | [], γ, γ', h => by rw [lowL, lowL, psd_g hw h]
  | p :: R, γ, γ', h => by
    rw [lowL, lowL, show (fun o => lowL (psd n w pl mg) R (gpl γ p o)) = (fun o => lowL (psd n w pl mg) R (gpl γ' p o)) from funext fun o => lowL_g hw R (gpl_g h p o)]
variable {X : XT} {c lp lt : Nat} {bs nn : Nat → Nat}
theorem CP.pz (h : CP X c bs nn) {i : Nat} (hi : i < c) : ∀ s, s < nn i → PZM X (bs i) (nn i) s = PZ X (nI i) (nn i) s := fun s hs => by
  unfold PZM PZ
  rw [h.pnts hi hs]
theorem CP.cw (h : CP X c bs nn) {i a : Nat} (hi : i < c) (ha : a < nn i) : CWM X bs nn lp i a mg = CW X nn lp i a mg := by
  unfold CWM CW
  rw [h.lf hi, cntL_g ha _ (h.pz hi)]
theorem CP.bw (h : CP X c bs nn) {i a : Nat} (hi : i < c) (ha : a < nn i) : lowL (psd (nn i) a lp 0) (lfA (scM X (bs i)) (nn i)).reverse (PZM X (bs i) (nn i)) = lowL (psd (nn i) a lp 0) (lfA (scC X (nI i)) (nn i)).reverse (PZ X (nI i) (nn i)) := by
  rw [h.lf hi, lowL_g ha _ (h.pz hi)]
theorem CP.plyd (h : CP X c bs nn) {i a : Nat} (hi : i < c) (ha : a < nn i) : nI (ct (fun k => decide (¬ scM X (bs i) a k = -1)) (nn i)) = plSum X (nI i) (nI a) (nn i) := by
  rw [ct_congr (fun k hk => by rw [(h i hi).1 a k ha hk])]
  exact (sumN_ct (nn i)).symm
theorem CP.df (h : CP X c bs nn) {i a : Nat} (hi : i < c) (ha : a < nn i) (f : Int32 → Int32 → Int32) : rsC (scM X (bs i)) (nn i) (fun _ => true) f a = rsC (scC X (nI i)) (nn i) (fun _ => true) f a := rsC_S (h i hi).1 ha
/-- teams of different groups are different -/
theorem CI.dj (h : CI X c bs nn lp lt) : ∀ i j t u, i < c → j < c → i ≠ j → t < nn i → u < nn j → bs i + t ≠ bs j + u := by
  intro i j t u hi hj hne ht hu
  rcases Nat.lt_or_gt_of_ne hne with hlt | hlt
  · have := h.bm (i := i + 1) (j := j) (by omega) (by omega)
    have := h.bS hi
    omega
  · have := h.bm (i := j + 1) (j := i) (by omega) (by omega)
    have := h.bS hj
    omega
/-- a number is that of a team or of none -/
theorem CI.team (h : CI X c bs nn lp lt) {v : Int32} (hv : isT bs c v) : ∃ i a, i < c ∧ a < nn i ∧ v = nI (bs i + a) := by
  obtain ⟨T, hT, rfl⟩ := hv
  obtain ⟨i, h1, h2, h3⟩ := h.find hT
  exact ⟨i, T - bs i, h1, by omega, by rw [show bs i + (T - bs i) = T by omega]⟩
end Cp2
