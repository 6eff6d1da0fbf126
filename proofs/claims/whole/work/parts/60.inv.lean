/-! what both hold after a change -/
section Inv
variable {X : XT} {c lp lt : Nat} {bs nn : Nat → Nat}
theorem xs_cm (F : XF) {k k' : Nat} (h : k ≠ k') (a b j x a' b' j' x' : Int32) : xs (xs F k a b j x) k' a' b' j' x' = xs (xs F k' a' b' j' x') k a b j x := by
  funext q u z y
  unfold xs
  by_cases A : q = k' ∧ u = a' ∧ z = b' ∧ y = j'
  · rw [if_pos A, if_neg (fun B => h (B.1.symm.trans A.1)), if_pos A]
  · rw [if_neg A]
    by_cases B : q = k ∧ u = a ∧ z = b ∧ y = j
    · rw [if_pos B, if_pos B]
    · rw [if_neg B, if_neg B, if_neg A]
theorem th_tell (X : XT) (z : Int64) (g l u v w : Int32) : th ((tellX X g l u v w).1, z) 0 = tellX (th (X.1, z) 0) g l u v w := by
  show ((xs (xs (xs X.1 4 g l u v) 4 g u l w) 30 0 0 16 0, z) : XT) = (xs (xs (xs X.1 30 0 0 16 0) 4 g l u v) 4 g u l w, z)
  rw [xs_cm _ (show (4 : Nat) ≠ 30 by decide), xs_cm X.1 (show (4 : Nat) ≠ 30 by decide)]
theorem nIx {a b : Nat} (ha : a < 1000) (hb : b < 1000) (h : a ≠ b) : nI a ≠ nI b := fun q => h (nI_inj (by omega) (by omega) q)
theorem CI.b30 (h : CI X c bs nn lp lt) {j : Nat} (hj : j ≤ c) : bs j ≤ 30 := by
  have := h.b5 j hj
  have := h.hc
  omega
theorem BI_put (h : BI X c bs nn lp lt) {i a a' : Nat} (hi : i < c) (ha : a < nn i) (ha' : a' < nn i) (hne : a ≠ a') {v w : Int32} (hv : VW v w) : BI (layX (tellX X (nI i) (nI a) (nI a') v w) (bs i) a a' v w) c bs nn lp lt := by
  obtain ⟨hC, hM, hP, hZ⟩ := h
  have hc6 := hC.hc
  have n3 := hC.n3 hi
  have b30i := hC.b30 (j := i) (by omega)
  have fT := tell_fr4 X (nI i) (nI a) (nI a') v w
  have sWi := scC_tell (n := nn i) (p := (a, a')) (v := v) (w := w) X (nI i) n3.2 (show a < 5 by omega) (show a' < 5 by omega)
  have sWo : ∀ j, j < c → j ≠ i → scC (tellX X (nI i) (nI a) (nI a') v w) (nI j) = scC X (nI j) := fun j hj e => scC_tell_o X (nIx (by omega) (by omega) e) (nI a) (nI a')
  generalize tellX X (nI i) (nI a) (nI a') v w = W at fT sWi sWo
  have CW : CI W c bs nn lp lt := by
    obtain ⟨k1, k2, k3, k4, k5, k6⟩ := id hC
    unfold CI
    rw [fT.2 0 (by decide), fT.2 2 (by decide), fT.2 5 (by decide), fT.2 6 (by decide), fT.2 7 (by decide)]
    refine ⟨k1, k2, k3, k4, ⟨fun j hj => ?_, fun j hj => ?_⟩, k6⟩
    · by_cases e : j = i
      · rw [e]
        exact SY_SE sWi.sm (SY_put (hC.sy hi) hne hv)
      · rw [sWo j hj e]
        exact hC.sy hj
    · by_cases e : j = i
      · rw [e]
        exact SB_SE sWi.sm (SB_put (fun x y hx hy => hC.sr hi hx hy) hv)
      · rw [sWo j hj e]
        exact fun x y hx hy => hC.sr hj hx hy
  have fL := lay_fr W (bs i) a a' v w
  have MW := hM.fr fT (by decide) (by decide) (by decide) (by decide) (by decide) (by decide) (by decide) (by decide)
  have eo : ∀ j, j < c → j ≠ i → SE (scM (layX W (bs i) a a' v w) (bs j)) (scM W (bs j)) (nn j) := fun j hj e => scM_lay_o W (fun x hx => ⟨hC.dj j i x a hj hi e hx ha, hC.dj j i x a' hj hi e hx ha'⟩) b30i (hC.b30 (by omega)) (hC.n3 hj).2 (by omega) (by omega)
  refine ⟨CW.fr fL (by decide) (by decide) (by decide) (by decide) (by decide) (by decide), ?_, ?_, ?_⟩
  · obtain ⟨⟨⟨m1, m2⟩, m3⟩, ⟨m4, m5, m6⟩, m7⟩ := MW
    refine ⟨⟨⟨m1, by rw [fL.at 30 (by decide)]; exact m2⟩, fun j hj => ⟨(m3 j hj).1.fr fL (by decide) (by decide) (by decide), ?_⟩⟩, ⟨by rw [fL.at 30 (by decide)]; exact m4, by rw [fL.at 30 (by decide)]; exact m5, by rw [fL.at 30 (by decide)]; exact m6⟩, m7⟩
    by_cases e : j = i
    · rw [e]
      exact MV_lay (m3 i hi).2 n3.2 b30i ha ha' hne hv
    · have e2 := eo j hj e
      refine ⟨SY_SE e2.sm (m3 j hj).2.1, SB_SE e2.sm (m3 j hj).2.2.1, ?_⟩
      rw [awM_fr fL (by decide), caM_fr fL (by decide), loM_fr fL (by decide)]
      exact (m3 j hj).2.2.2
  · intro j hj
    refine ⟨?_, fun z hz => ?_⟩
    · by_cases e : j = i
      · rw [e, scC_fr fL (by decide)]
        exact ((scM_lay (n := nn i) (p := (a, a')) W (bs i) b30i n3.2 (show a < 5 by omega) (show a' < 5 by omega)).tr (putS_SE (by rw [scM_fr fT (by decide)]; exact (hP i hi).1) (a, a') v w)).tr sWi.sm
      · rw [scC_fr fL (by decide), sWo j hj e]
        exact (eo j hj e).tr (by rw [scM_fr fT (by decide)]; exact (hP j hj).1)
    · rw [awM_fr fL (by decide), caM_fr fL (by decide), loM_fr fL (by decide), fL.2 5 (by decide), fL.2 6 (by decide), fL.2 7 (by decide), awM_fr fT (by decide), caM_fr fT (by decide), loM_fr fT (by decide), fT.2 5 (by decide), fT.2 6 (by decide), fT.2 7 (by decide)]
      exact (hP j hj).2 z hz
  · obtain ⟨z1, z2, z3⟩ := hZ
    refine ⟨by rw [fL.2 5 (by decide), fL.2 6 (by decide), fT.2 5 (by decide), fT.2 6 (by decide)]; exact z1, by rw [fL.2 34 (by decide), fL.2 35 (by decide), fT.2 34 (by decide), fT.2 35 (by decide)]; exact z2, fun k hk hk2 => ?_⟩
    have t1 := hC.tlt hi ha
    have t2 := hC.tlt hi ha'
    rw [layX_at, if_neg (fun q => by have := nI_inj (by omega) (by omega) q.2.2; omega), if_neg (fun q => by have := nI_inj (by omega) (by omega) q.2.2; omega), fT.at 37 (by decide)]
    exact z3 k hk hk2
theorem BI_set5 (h : BI X c bs nn lp lt) {i a : Nat} (hi : i < c) (ha : a < nn i) {v : Int32} (hv : ∃ x, x ≤ 20 ∧ v = nI x) : BI ((xs (xs X.1 5 0 (nI i) (nI a) v) 34 0 0 (nI (bs i + a)) v, X.2) : XT) c bs nn lp lt := by
  obtain ⟨hC, hM, hP, hZ⟩ := h
  have hc6 := hC.hc
  have n3 := hC.n3 hi
  have t1 := hC.tlt hi ha
  have fT : Fr [5] X ((xs X.1 5 0 (nI i) (nI a) v, X.2) : XT) := Fr.xs _ _ _ _ _ (List.mem_singleton.mpr rfl)
  have a5 : ∀ j z : Nat, ((xs X.1 5 0 (nI i) (nI a) v, X.2) : XT).1 5 0 (nI j) (nI z) = if nI j = nI i ∧ nI z = nI a then v else X.1 5 0 (nI j) (nI z) := fun j z => by
    show xs X.1 5 0 (nI i) (nI a) v 5 0 (nI j) (nI z) = _
    unfold xs
    simp only [true_and]
  have fL : Fr [34] ((xs X.1 5 0 (nI i) (nI a) v, X.2) : XT) ((xs (xs X.1 5 0 (nI i) (nI a) v) 34 0 0 (nI (bs i + a)) v, X.2) : XT) := Fr.xs ((xs X.1 5 0 (nI i) (nI a) v, X.2) : XT) _ _ _ _ (List.mem_singleton.mpr rfl)
  have a34 : ∀ T : Nat, ((xs (xs X.1 5 0 (nI i) (nI a) v) 34 0 0 (nI (bs i + a)) v, X.2) : XT).1 34 0 0 (nI T) = if nI T = nI (bs i + a) then v else ((xs X.1 5 0 (nI i) (nI a) v, X.2) : XT).1 34 0 0 (nI T) := fun T => by
    show xs (xs X.1 5 0 (nI i) (nI a) v) 34 0 0 (nI (bs i + a)) v 34 0 0 (nI T) = _
    unfold xs
    simp only [true_and]
  generalize ((xs (xs X.1 5 0 (nI i) (nI a) v) 34 0 0 (nI (bs i + a)) v, X.2) : XT) = F at fL a34 ⊢
  generalize ((xs X.1 5 0 (nI i) (nI a) v, X.2) : XT) = W at fT a5 fL a34
  have CW : CI W c bs nn lp lt := by
    obtain ⟨k1, k2, k3, k4, k5, k6, k7, k8⟩ := id hC
    unfold CI
    have e4 : ∀ k, scC W k = scC X k := fun k => scC_fr fT (by decide)
    simp only [e4]
    rw [fT.2 0 (by decide), fT.2 2 (by decide), fT.2 6 (by decide), fT.2 7 (by decide)]
    refine ⟨k1, k2, k3, k4, k5, ?_, k7, k8⟩
    intro j hj z hz
    rw [a5]
    split
    · exact hv
    · exact k6 j hj z hz
  have MW := hM.fr fT (by decide) (by decide) (by decide) (by decide) (by decide) (by decide) (by decide) (by decide)
  refine ⟨CW.fr fL (by decide) (by decide) (by decide) (by decide) (by decide) (by decide), ?_, ?_, ?_⟩
  · obtain ⟨⟨⟨m1, m2⟩, m3⟩, ⟨m4, m5, m6⟩, m7⟩ := MW
    refine ⟨⟨⟨m1, by rw [fL.at 30 (by decide)]; exact m2⟩, fun j hj => ⟨(m3 j hj).1.fr fL (by decide) (by decide) (by decide), ?_⟩⟩, ⟨by rw [fL.at 30 (by decide)]; exact m4, by rw [fL.at 30 (by decide)]; exact m5, by rw [fL.at 30 (by decide)]; exact m6⟩, m7⟩
    refine ⟨by rw [scM_fr fL (by decide)]; exact (m3 j hj).2.1, by rw [scM_fr fL (by decide)]; exact (m3 j hj).2.2.1, fun z hz => ?_, by rw [caM_fr fL (by decide)]; exact (m3 j hj).2.2.2.2.1, by rw [loM_fr fL (by decide)]; exact (m3 j hj).2.2.2.2.2⟩
    show ∃ v, v ≤ 20 ∧ F.1 34 0 0 (nI (bs j + z)) = nI v
    rw [a34]
    split
    · exact hv
    · exact (m3 j hj).2.2.2.1 z hz
  · intro j hj
    have n3j := hC.n3 hj
    refine ⟨by rw [scM_fr fL (by decide), scM_fr fT (by decide), scC_fr fL (by decide), scC_fr fT (by decide)]; exact (hP j hj).1, fun z hz => ⟨?_, by rw [caM_fr fL (by decide), caM_fr fT (by decide), fL.2 6 (by decide), fT.2 6 (by decide)]; exact ((hP j hj).2 z hz).2.1, by rw [loM_fr fL (by decide), loM_fr fT (by decide), fL.2 7 (by decide), fT.2 7 (by decide)]; exact ((hP j hj).2 z hz).2.2⟩⟩
    show F.1 34 0 0 (nI (bs j + z)) = F.1 5 0 (nI j) (nI z)
    have t2 := hC.tlt hj hz
    rw [a34, fL.2 5 (by decide), a5, fT.2 34 (by decide)]
    by_cases e : j = i ∧ z = a
    · rw [if_pos (by rw [e.1, e.2]), if_pos (by rw [e.1, e.2]; exact ⟨rfl, rfl⟩)]
    · rw [if_neg (nIx (by omega) (by omega) (fun q => by
        by_cases e2 : j = i
        · rw [e2] at q
          exact e ⟨e2, by omega⟩
        · exact hC.dj j i z a hj hi e2 hz ha q)), if_neg (fun q => e ⟨nI_inj (by omega) (by omega) q.1, nI_inj (by omega) (by omega) q.2⟩)]
      exact ((hP j hj).2 z hz).1
  · obtain ⟨z1, z2, z3⟩ := hZ
    refine ⟨fun j z h1 h2 h3 => ⟨?_, by rw [fL.2 6 (by decide), fT.2 6 (by decide)]; exact (z1 j z h1 h2 h3).2⟩, fun T h1 h2 => ⟨?_, by rw [fL.2 35 (by decide), fT.2 35 (by decide)]; exact (z2 T h1 h2).2⟩, by rw [fL.2 37 (by decide), fT.2 37 (by decide)]; exact z3⟩
    · rw [fL.2 5 (by decide), a5, if_neg (fun q => nIx (by omega) (by omega) (by omega) q.1)]
      exact (z1 j z h1 h2 h3).1
    · rw [a34, if_neg (nIx (by omega) (by omega) (by omega)), fT.2 34 (by decide)]
      exact (z2 T h1 h2).1
theorem BI_set6 (h : BI X c bs nn lp lt) {i a : Nat} (hi : i < c) (ha : a < nn i) {v : Int32} (hv : ∃ x, x ≤ 50 ∧ v = nI x) : BI ((xs (xs X.1 6 0 (nI i) (nI a) v) 35 0 0 (nI (bs i + a)) v, X.2) : XT) c bs nn lp lt := by
  obtain ⟨hC, hM, hP, hZ⟩ := h
  have hc6 := hC.hc
  have n3 := hC.n3 hi
  have t1 := hC.tlt hi ha
  have fT : Fr [6] X ((xs X.1 6 0 (nI i) (nI a) v, X.2) : XT) := Fr.xs _ _ _ _ _ (List.mem_singleton.mpr rfl)
  have a6 : ∀ j z : Nat, ((xs X.1 6 0 (nI i) (nI a) v, X.2) : XT).1 6 0 (nI j) (nI z) = if nI j = nI i ∧ nI z = nI a then v else X.1 6 0 (nI j) (nI z) := fun j z => by
    show xs X.1 6 0 (nI i) (nI a) v 6 0 (nI j) (nI z) = _
    unfold xs
    simp only [true_and]
  have fL : Fr [35] ((xs X.1 6 0 (nI i) (nI a) v, X.2) : XT) ((xs (xs X.1 6 0 (nI i) (nI a) v) 35 0 0 (nI (bs i + a)) v, X.2) : XT) := Fr.xs ((xs X.1 6 0 (nI i) (nI a) v, X.2) : XT) _ _ _ _ (List.mem_singleton.mpr rfl)
  have a35 : ∀ T : Nat, ((xs (xs X.1 6 0 (nI i) (nI a) v) 35 0 0 (nI (bs i + a)) v, X.2) : XT).1 35 0 0 (nI T) = if nI T = nI (bs i + a) then v else ((xs X.1 6 0 (nI i) (nI a) v, X.2) : XT).1 35 0 0 (nI T) := fun T => by
    show xs (xs X.1 6 0 (nI i) (nI a) v) 35 0 0 (nI (bs i + a)) v 35 0 0 (nI T) = _
    unfold xs
    simp only [true_and]
  generalize ((xs (xs X.1 6 0 (nI i) (nI a) v) 35 0 0 (nI (bs i + a)) v, X.2) : XT) = F at fL a35 ⊢
  generalize ((xs X.1 6 0 (nI i) (nI a) v, X.2) : XT) = W at fT a6 fL a35
  have CW : CI W c bs nn lp lt := by
    obtain ⟨k1, k2, k3, k4, k5, k6, k7, k8⟩ := id hC
    unfold CI
    have e4 : ∀ k, scC W k = scC X k := fun k => scC_fr fT (by decide)
    simp only [e4]
    rw [fT.2 0 (by decide), fT.2 2 (by decide), fT.2 5 (by decide), fT.2 7 (by decide)]
    refine ⟨k1, k2, k3, k4, k5, k6, ?_, k8⟩
    intro j hj z hz
    rw [a6]
    split
    · exact hv
    · exact k7 j hj z hz
  have MW := hM.fr fT (by decide) (by decide) (by decide) (by decide) (by decide) (by decide) (by decide) (by decide)
  refine ⟨CW.fr fL (by decide) (by decide) (by decide) (by decide) (by decide) (by decide), ?_, ?_, ?_⟩
  · obtain ⟨⟨⟨m1, m2⟩, m3⟩, ⟨m4, m5, m6⟩, m7⟩ := MW
    refine ⟨⟨⟨m1, by rw [fL.at 30 (by decide)]; exact m2⟩, fun j hj => ⟨(m3 j hj).1.fr fL (by decide) (by decide) (by decide), ?_⟩⟩, ⟨by rw [fL.at 30 (by decide)]; exact m4, by rw [fL.at 30 (by decide)]; exact m5, by rw [fL.at 30 (by decide)]; exact m6⟩, m7⟩
    refine ⟨by rw [scM_fr fL (by decide)]; exact (m3 j hj).2.1, by rw [scM_fr fL (by decide)]; exact (m3 j hj).2.2.1, by rw [awM_fr fL (by decide)]; exact (m3 j hj).2.2.2.1, fun z hz => ?_, by rw [loM_fr fL (by decide)]; exact (m3 j hj).2.2.2.2.2⟩
    show ∃ v, v ≤ 50 ∧ F.1 35 0 0 (nI (bs j + z)) = nI v
    rw [a35]
    split
    · exact hv
    · exact (m3 j hj).2.2.2.2.1 z hz
  · intro j hj
    have n3j := hC.n3 hj
    refine ⟨by rw [scM_fr fL (by decide), scM_fr fT (by decide), scC_fr fL (by decide), scC_fr fT (by decide)]; exact (hP j hj).1, fun z hz => ⟨by rw [awM_fr fL (by decide), awM_fr fT (by decide), fL.2 5 (by decide), fT.2 5 (by decide)]; exact ((hP j hj).2 z hz).1, ?_, by rw [loM_fr fL (by decide), loM_fr fT (by decide), fL.2 7 (by decide), fT.2 7 (by decide)]; exact ((hP j hj).2 z hz).2.2⟩⟩
    show F.1 35 0 0 (nI (bs j + z)) = F.1 6 0 (nI j) (nI z)
    have t2 := hC.tlt hj hz
    rw [a35, fL.2 6 (by decide), a6, fT.2 35 (by decide)]
    by_cases e : j = i ∧ z = a
    · rw [if_pos (by rw [e.1, e.2]), if_pos (by rw [e.1, e.2]; exact ⟨rfl, rfl⟩)]
    · rw [if_neg (nIx (by omega) (by omega) (fun q => by
        by_cases e2 : j = i
        · rw [e2] at q
          exact e ⟨e2, by omega⟩
        · exact hC.dj j i z a hj hi e2 hz ha q)), if_neg (fun q => e ⟨nI_inj (by omega) (by omega) q.1, nI_inj (by omega) (by omega) q.2⟩)]
      exact ((hP j hj).2 z hz).2.1
  · obtain ⟨z1, z2, z3⟩ := hZ
    refine ⟨fun j z h1 h2 h3 => ⟨by rw [fL.2 5 (by decide), fT.2 5 (by decide)]; exact (z1 j z h1 h2 h3).1, ?_⟩, fun T h1 h2 => ⟨by rw [fL.2 34 (by decide), fT.2 34 (by decide)]; exact (z2 T h1 h2).1, ?_⟩, by rw [fL.2 37 (by decide), fT.2 37 (by decide)]; exact z3⟩
    · rw [fL.2 6 (by decide), a6, if_neg (fun q => nIx (by omega) (by omega) (by omega) q.1)]
      exact (z1 j z h1 h2 h3).2
    · rw [a35, if_neg (nIx (by omega) (by omega) (by omega)), fT.2 35 (by decide)]
      exact (z2 T h1 h2).2
theorem BI_set7 (h : BI X c bs nn lp lt) {i a : Nat} (hi : i < c) (ha : a < nn i) {v : Int32} (hv : ∃ x, x ≤ 99 ∧ v = nI x) : BI ((xs (xs X.1 7 0 (nI i) (nI a) v) 36 0 0 (nI (bs i + a)) v, X.2) : XT) c bs nn lp lt := by
  obtain ⟨hC, hM, hP, hZ⟩ := h
  have hc6 := hC.hc
  have n3 := hC.n3 hi
  have t1 := hC.tlt hi ha
  have fT : Fr [7] X ((xs X.1 7 0 (nI i) (nI a) v, X.2) : XT) := Fr.xs _ _ _ _ _ (List.mem_singleton.mpr rfl)
  have a7 : ∀ j z : Nat, ((xs X.1 7 0 (nI i) (nI a) v, X.2) : XT).1 7 0 (nI j) (nI z) = if nI j = nI i ∧ nI z = nI a then v else X.1 7 0 (nI j) (nI z) := fun j z => by
    show xs X.1 7 0 (nI i) (nI a) v 7 0 (nI j) (nI z) = _
    unfold xs
    simp only [true_and]
  have fL : Fr [36] ((xs X.1 7 0 (nI i) (nI a) v, X.2) : XT) ((xs (xs X.1 7 0 (nI i) (nI a) v) 36 0 0 (nI (bs i + a)) v, X.2) : XT) := Fr.xs ((xs X.1 7 0 (nI i) (nI a) v, X.2) : XT) _ _ _ _ (List.mem_singleton.mpr rfl)
  have a36 : ∀ T : Nat, ((xs (xs X.1 7 0 (nI i) (nI a) v) 36 0 0 (nI (bs i + a)) v, X.2) : XT).1 36 0 0 (nI T) = if nI T = nI (bs i + a) then v else ((xs X.1 7 0 (nI i) (nI a) v, X.2) : XT).1 36 0 0 (nI T) := fun T => by
    show xs (xs X.1 7 0 (nI i) (nI a) v) 36 0 0 (nI (bs i + a)) v 36 0 0 (nI T) = _
    unfold xs
    simp only [true_and]
  generalize ((xs (xs X.1 7 0 (nI i) (nI a) v) 36 0 0 (nI (bs i + a)) v, X.2) : XT) = F at fL a36 ⊢
  generalize ((xs X.1 7 0 (nI i) (nI a) v, X.2) : XT) = W at fT a7 fL a36
  have CW : CI W c bs nn lp lt := by
    obtain ⟨k1, k2, k3, k4, k5, k6, k7, k8⟩ := id hC
    unfold CI
    have e4 : ∀ k, scC W k = scC X k := fun k => scC_fr fT (by decide)
    simp only [e4]
    rw [fT.2 0 (by decide), fT.2 2 (by decide), fT.2 5 (by decide), fT.2 6 (by decide)]
    refine ⟨k1, k2, k3, k4, k5, k6, k7, ?_⟩
    intro j hj z hz
    rw [a7]
    split
    · exact hv
    · exact k8 j hj z hz
  have MW := hM.fr fT (by decide) (by decide) (by decide) (by decide) (by decide) (by decide) (by decide) (by decide)
  refine ⟨CW.fr fL (by decide) (by decide) (by decide) (by decide) (by decide) (by decide), ?_, ?_, ?_⟩
  · obtain ⟨⟨⟨m1, m2⟩, m3⟩, ⟨m4, m5, m6⟩, m7⟩ := MW
    refine ⟨⟨⟨m1, by rw [fL.at 30 (by decide)]; exact m2⟩, fun j hj => ⟨(m3 j hj).1.fr fL (by decide) (by decide) (by decide), ?_⟩⟩, ⟨by rw [fL.at 30 (by decide)]; exact m4, by rw [fL.at 30 (by decide)]; exact m5, by rw [fL.at 30 (by decide)]; exact m6⟩, m7⟩
    refine ⟨by rw [scM_fr fL (by decide)]; exact (m3 j hj).2.1, by rw [scM_fr fL (by decide)]; exact (m3 j hj).2.2.1, by rw [awM_fr fL (by decide)]; exact (m3 j hj).2.2.2.1, by rw [caM_fr fL (by decide)]; exact (m3 j hj).2.2.2.2.1, fun z hz => ?_⟩
    show ∃ v, v ≤ 99 ∧ F.1 36 0 0 (nI (bs j + z)) = nI v
    rw [a36]
    split
    · exact hv
    · exact (m3 j hj).2.2.2.2.2 z hz
  · intro j hj
    have n3j := hC.n3 hj
    refine ⟨by rw [scM_fr fL (by decide), scM_fr fT (by decide), scC_fr fL (by decide), scC_fr fT (by decide)]; exact (hP j hj).1, fun z hz => ⟨by rw [awM_fr fL (by decide), awM_fr fT (by decide), fL.2 5 (by decide), fT.2 5 (by decide)]; exact ((hP j hj).2 z hz).1, by rw [caM_fr fL (by decide), caM_fr fT (by decide), fL.2 6 (by decide), fT.2 6 (by decide)]; exact ((hP j hj).2 z hz).2.1, ?_⟩⟩
    show F.1 36 0 0 (nI (bs j + z)) = F.1 7 0 (nI j) (nI z)
    have t2 := hC.tlt hj hz
    rw [a36, fL.2 7 (by decide), a7, fT.2 36 (by decide)]
    by_cases e : j = i ∧ z = a
    · rw [if_pos (by rw [e.1, e.2]), if_pos (by rw [e.1, e.2]; exact ⟨rfl, rfl⟩)]
    · rw [if_neg (nIx (by omega) (by omega) (fun q => by
        by_cases e2 : j = i
        · rw [e2] at q
          exact e ⟨e2, by omega⟩
        · exact hC.dj j i z a hj hi e2 hz ha q)), if_neg (fun q => e ⟨nI_inj (by omega) (by omega) q.1, nI_inj (by omega) (by omega) q.2⟩)]
      exact ((hP j hj).2 z hz).2.2
  · obtain ⟨z1, z2, z3⟩ := hZ
    exact ⟨by rw [fL.2 5 (by decide), fL.2 6 (by decide), fT.2 5 (by decide), fT.2 6 (by decide)]; exact z1, by rw [fL.2 34 (by decide), fL.2 35 (by decide), fT.2 34 (by decide), fT.2 35 (by decide)]; exact z2, by rw [fL.2 37 (by decide), fT.2 37 (by decide)]; exact z3⟩
theorem BI_thr (h : BI X c bs nn lp lt) {x y : Nat} (hx : 1 ≤ x ∧ x ≤ 2) (hy : y ≤ 6) : BI ((xs (xs (xs (xs X.1 0 0 0 7 (nI x)) 0 0 0 8 (nI y)) 30 0 0 2 (nI x)) 30 0 0 3 (nI y), X.2) : XT) c bs nn x y := by
  obtain ⟨hC, hM, hP, hZ⟩ := h
  have fT : Fr [0] X ((xs (xs X.1 0 0 0 7 (nI x)) 0 0 0 8 (nI y), X.2) : XT) := (Fr.xs X 0 0 7 (nI x) (List.mem_singleton.mpr rfl)).tr (Fr.xs ((xs X.1 0 0 0 7 (nI x), X.2) : XT) 0 0 8 (nI y) (List.mem_singleton.mpr rfl))
  have w5 : xs (xs X.1 0 0 0 7 (nI x)) 0 0 0 8 (nI y) 0 0 0 5 = X.1 0 0 0 5 := by rw [xs_nj _ _ _ _ _ (by decide), xs_nj _ _ _ _ _ (by decide)]
  have w6 : xs (xs X.1 0 0 0 7 (nI x)) 0 0 0 8 (nI y) 0 0 0 6 = X.1 0 0 0 6 := by rw [xs_nj _ _ _ _ _ (by decide), xs_nj _ _ _ _ _ (by decide)]
  have w7 : xs (xs X.1 0 0 0 7 (nI x)) 0 0 0 8 (nI y) 0 0 0 7 = nI x := by rw [xs_nj _ _ _ _ _ (by decide), xs_self]
  have w8 : xs (xs X.1 0 0 0 7 (nI x)) 0 0 0 8 (nI y) 0 0 0 8 = nI y := xs_self _ _ _ _ _ _
  generalize hW : xs (xs X.1 0 0 0 7 (nI x)) 0 0 0 8 (nI y) = W at fT w5 w6 w7 w8 ⊢
  have fL : Fr [30] ((W, X.2) : XT) ((xs (xs W 30 0 0 2 (nI x)) 30 0 0 3 (nI y), X.2) : XT) := (Fr.xs ((W, X.2) : XT) 0 0 2 (nI x) (List.mem_singleton.mpr rfl)).tr (Fr.xs ((xs W 30 0 0 2 (nI x), X.2) : XT) 0 0 3 (nI y) (List.mem_singleton.mpr rfl))
  have v0 : xs (xs W 30 0 0 2 (nI x)) 30 0 0 3 (nI y) 30 0 0 0 = W 30 0 0 0 := by rw [xs_nj _ _ _ _ _ (by decide), xs_nj _ _ _ _ _ (by decide)]
  have v1 : xs (xs W 30 0 0 2 (nI x)) 30 0 0 3 (nI y) 30 0 0 1 = W 30 0 0 1 := by rw [xs_nj _ _ _ _ _ (by decide), xs_nj _ _ _ _ _ (by decide)]
  have v2 : xs (xs W 30 0 0 2 (nI x)) 30 0 0 3 (nI y) 30 0 0 2 = nI x := by rw [xs_nj _ _ _ _ _ (by decide), xs_self]
  have v3 : xs (xs W 30 0 0 2 (nI x)) 30 0 0 3 (nI y) 30 0 0 3 = nI y := xs_self _ _ _ _ _ _
  generalize hF : xs (xs W 30 0 0 2 (nI x)) 30 0 0 3 (nI y) = F at fL v0 v1 v2 v3 ⊢
  have f2 : Fr [0, 30] X ((F, X.2) : XT) := (fT.mo (by decide)).tr (fL.mo (by decide))
  have CW : CI ((W, X.2) : XT) c bs nn x y := by
    obtain ⟨k1, k2, k3, k4, k5, k6⟩ := id hC
    unfold CI
    have e4 : ∀ k, scC ((W, X.2) : XT) k = scC X k := fun k => scC_fr fT (by decide)
    simp only [e4]
    rw [show W 2 = X.1 2 from fT.2 2 (by decide), show W 5 = X.1 5 from fT.2 5 (by decide), show W 6 = X.1 6 from fT.2 6 (by decide), show W 7 = X.1 7 from fT.2 7 (by decide)]
    exact ⟨k1, ⟨w5.trans k2.1, w6.trans k2.2.1, w7, w8⟩, ⟨hx.1, hx.2, hy⟩, k4, k5, k6⟩
  refine ⟨CW.fr fL (by decide) (by decide) (by decide) (by decide) (by decide) (by decide), ?_, hP.fr f2 (by decide) (by decide) (by decide) (by decide) (by decide) (by decide) (by decide) (by decide), ?_⟩
  · have MW := hM.fr fT (by decide) (by decide) (by decide) (by decide) (by decide) (by decide) (by decide) (by decide)
    obtain ⟨⟨⟨m1, m2⟩, m3⟩, ⟨m4, m5, m6⟩, m7, m8, m9, m10⟩ := MW
    exact ⟨⟨⟨m1, v0.trans m2⟩, fun j hj => ⟨(m3 j hj).1.fr fL (by decide) (by decide) (by decide), (m3 j hj).2.fr fL (by decide) (by decide) (by decide) (by decide)⟩⟩, ⟨v1.trans m4, v2, v3⟩, m7, m8, hx.2, hy⟩
  · unfold FZ at hZ ⊢
    rw [f2.2 5 (by decide), f2.2 6 (by decide), f2.2 34 (by decide), f2.2 35 (by decide), f2.2 37 (by decide)]
    exact hZ
end Inv
