/-! a group more -/
section Agr
variable {X F : XT} {c lp lt m : Nat} {bs nn B N : Nat → Nat}
/-- what is written when a group is added -/
def ADD (X F : XT) (c m T : Nat) : Prop :=
  (F.1 0 0 0 5 = nI (c + 1) ∧ F.1 0 0 0 6 = nI (T + m) ∧ F.1 0 0 0 7 = X.1 0 0 0 7 ∧ F.1 0 0 0 8 = X.1 0 0 0 8) ∧
  (∀ j, j < 6 → F.1 2 0 (nI j) 4 = (if j = c then nI T else X.1 2 0 (nI j) 4) ∧ F.1 2 0 (nI j) 5 = (if j = c then nI m else X.1 2 0 (nI j) 5)) ∧
  (∀ j, j < 6 → j ≠ c → ∀ a b, a < 5 → b < 5 → F.1 4 (nI j) (nI a) (nI b) = X.1 4 (nI j) (nI a) (nI b)) ∧
  (∀ a b, a < m → b < m → F.1 4 (nI c) (nI a) (nI b) = -1) ∧
  (∀ j, j < 6 → j ≠ c → ∀ a, a < 5 → F.1 7 0 (nI j) (nI a) = X.1 7 0 (nI j) (nI a)) ∧
  (∀ a, a < m → F.1 7 0 (nI c) (nI a) = nI (T + a)) ∧
  (F.1 30 0 0 0 = nI (c + 1) ∧ F.1 30 0 0 1 = nI (T + m) ∧ F.1 30 0 0 2 = X.1 30 0 0 2 ∧ F.1 30 0 0 3 = X.1 30 0 0 3) ∧
  (∀ j, j < 6 → F.1 31 0 0 (nI j) = (if j = c then nI T else X.1 31 0 0 (nI j)) ∧ F.1 32 0 0 (nI j) = (if j = c then nI m else X.1 32 0 0 (nI j))) ∧
  (∀ t, t < T → F.1 33 0 0 (nI t) = X.1 33 0 0 (nI t) ∧ F.1 36 0 0 (nI t) = X.1 36 0 0 (nI t)) ∧
  (∀ a, a < m → F.1 33 0 0 (nI (T + a)) = nI c ∧ F.1 36 0 0 (nI (T + a)) = nI (T + a)) ∧
  F.1 5 = X.1 5 ∧ F.1 6 = X.1 6 ∧ F.1 34 = X.1 34 ∧ F.1 35 = X.1 35 ∧ F.1 37 = X.1 37
theorem BI_add (h : BI X c bs nn lp lt) (hc : c < 6) (hm : 3 ≤ m ∧ m ≤ 5) (hF : ADD X F c m (bs c)) (eB : ∀ j, j ≤ c → B j = bs j) (eB1 : B (c + 1) = bs c + m) (eN : ∀ j, j < c → N j = nn j) (eN1 : N c = m) : BI F (c + 1) B N lp lt := by
  obtain ⟨hC, hM, hP, hZ⟩ := h
  obtain ⟨z1, z2, z3⟩ := hZ
  have b5 := hC.b5 c (Nat.le_refl _)
  have hb25 : bs c ≤ 25 := by omega
  have lim : ∀ j, j < c + 1 → j = c ∨ j < c := fun j hj => by omega
  have tl := fun {i : Nat} (hi : i < c) {a : Nat} (ha : a < nn i) => hC.tlt hi ha
  obtain ⟨⟨f05, f06, f07, f08⟩, f2, f4o, f4, f7o, f7, ⟨f30, f31', f32', f33'⟩, f312, f33o, f33, e5, e6, e34, e35, e37⟩ := hF
  have scF : ∀ j, j < c → SE (scC F (nI j)) (scC X (nI j)) (nn j) := fun j hj a b ha hb => by
    have n5 := (hC.n3 hj).2
    exact f4o j (by omega) (by omega) a b (by omega) (by omega)
  have scc : ∀ a b, a < m → b < m → scC F (nI c) a b = -1 := f4
  have scMo : ∀ j, scM F (bs j) = scM X (bs j) := fun j => by
    funext a b
    show F.1 37 0 0 _ = X.1 37 0 0 _
    rw [e37]
  have scMc : ∀ a b, a < m → b < m → scM F (bs c) a b = -1 := fun a b ha hb => by
    show F.1 37 0 0 (nI (5 * (bs c + a) + b)) = -1
    rw [e37]
    exact z3 _ (by omega) (by omega)
  have hsh : ∀ i, i < c + 1 → 3 ≤ N i ∧ N i ≤ 5 := fun i hi => by
    rcases lim i hi with rfl | hi
    · rw [eN1]
      exact hm
    · rw [eN i hi]
      exact hC.n3 hi
  have hst : ∀ i, i < c + 1 → B (i + 1) = B i + N i := fun i hi => by
    rcases lim i hi with rfl | hi
    · rw [eB1, eB i (Nat.le_refl _), eN1]
    · rw [eB (i + 1) (by omega), eB i (by omega), eN i hi]
      exact hC.bS hi
  have hB0 : B 0 = 0 := by rw [eB 0 (Nat.zero_le _)]; exact hC.1.2.1
  have lpb := hC.lpb
  refine ⟨⟨⟨by omega, hB0, hst, hsh⟩, ⟨f05, by rw [eB1]; exact f06, f07.trans hC.c7, f08.trans hC.c8⟩, lpb, ⟨fun i hi => ?_, fun i hi => ?_⟩, ⟨fun i hi => ?_, fun i hi => ?_⟩, fun i hi a ha => ?_, fun i hi a ha => ?_, fun i hi a ha => ?_⟩, ⟨⟨⟨by omega, f30⟩, fun j hj => ⟨?_, ?_⟩⟩, ⟨by rw [eB1]; exact f31', f32'.trans hM.2.1.2.1, f33'.trans hM.2.1.2.2⟩, ⟨by omega, hB0, hst, hsh⟩, by rw [eB1]; omega, lpb.2.1, lpb.2.2⟩, fun j hj => ?_, ⟨fun i a h1 h2 h3 => ?_, fun t h1 h2 => ?_, fun k h1 h2 => ?_⟩⟩
  · rcases lim i hi with rfl | hi
    · rw [(f2 i hc).1, if_pos rfl, eB i (Nat.le_refl _)]
    · rw [(f2 i (by omega)).1, if_neg (by omega), eB i (by omega)]
      exact hC.g4 hi
  · rcases lim i hi with rfl | hi
    · rw [(f2 i hc).2, if_pos rfl, eN1]
    · rw [(f2 i (by omega)).2, if_neg (by omega), eN i hi]
      exact hC.g5 hi
  · rcases lim i hi with rfl | hi
    · rw [eN1]
      exact ⟨fun a ha => scc a a ha ha, fun a b ha hb => by rw [scc a b ha hb, scc b a hb ha]⟩
    · rw [eN i hi]
      exact SY_SE (scF i hi).sm (hC.sy hi)
  · rcases lim i hi with rfl | hi
    · rw [eN1]
      exact fun a b ha hb => Or.inl (scc a b ha hb)
    · rw [eN i hi]
      exact SB_SE (scF i hi).sm (fun x y hx hy => hC.sr hi hx hy)
  · rw [e5]
    rcases lim i hi with rfl | hi
    · rw [eN1] at ha
      exact ⟨0, by omega, (z1 i a (Nat.le_refl _) hc (by omega)).1⟩
    · rw [eN i hi] at ha
      exact hC.tk hi ha
  · rw [e6]
    rcases lim i hi with rfl | hi
    · rw [eN1] at ha
      exact ⟨0, by omega, (z1 i a (Nat.le_refl _) hc (by omega)).2⟩
    · rw [eN i hi] at ha
      exact hC.cd hi ha
  · rcases lim i hi with rfl | hi
    · rw [eN1] at ha
      exact ⟨bs i + a, by omega, f7 a ha⟩
    · rw [eN i hi] at ha
      have n5 := (hC.n3 hi).2
      rw [f7o i (by omega) (by omega) a (by omega)]
      exact hC.lo hi ha
  · rcases lim j hj with rfl | hj
    · rw [eN1, eB j (Nat.le_refl _)]
      exact ⟨⟨hc, hm.1, hm.2, by omega⟩, by rw [(f312 j hc).1, if_pos rfl], by rw [(f312 j hc).2, if_pos rfl], fun a ha => (f33 a ha).1⟩
    · rw [eN j hj, eB j (by omega)]
      obtain ⟨s1, s2, s3, s4⟩ := (hM.1.2 j hj).1
      exact ⟨s1, by rw [(f312 j (by omega)).1, if_neg (by omega)]; exact s2, by rw [(f312 j (by omega)).2, if_neg (by omega)]; exact s3, fun a ha => by rw [(f33o _ (tl hj ha).1).1]; exact s4 a ha⟩
  · rcases lim j hj with rfl | hj
    · rw [eN1, eB j (Nat.le_refl _)]
      refine ⟨⟨fun a ha => scMc a a ha ha, fun a b ha hb => by rw [scMc a b ha hb, scMc b a hb ha]⟩, fun a b ha hb => Or.inl (scMc a b ha hb), fun a ha => ⟨0, by omega, ?_⟩, fun a ha => ⟨0, by omega, ?_⟩, fun a ha => ⟨bs j + a, by omega, (f33 a ha).2⟩⟩
      · show F.1 34 0 0 (nI (bs j + a)) = _
        rw [e34]
        exact (z2 _ (by omega) (by omega)).1
      · show F.1 35 0 0 (nI (bs j + a)) = _
        rw [e35]
        exact (z2 _ (by omega) (by omega)).2
    · rw [eN j hj, eB j (by omega)]
      obtain ⟨s1, s2, s3, s4, s5⟩ := (hM.1.2 j hj).2
      refine ⟨by rw [scMo]; exact s1, by rw [scMo]; exact s2, fun a ha => ?_, fun a ha => ?_, fun a ha => ?_⟩
      · show ∃ v, v ≤ 20 ∧ F.1 34 0 0 (nI (bs j + a)) = nI v
        rw [e34]
        exact s3 a ha
      · show ∃ v, v ≤ 50 ∧ F.1 35 0 0 (nI (bs j + a)) = nI v
        rw [e35]
        exact s4 a ha
      · show ∃ v, v ≤ 99 ∧ F.1 36 0 0 (nI (bs j + a)) = nI v
        rw [(f33o _ (tl hj ha).1).2]
        exact s5 a ha
  · rcases lim j hj with rfl | hj
    · rw [eN1, eB j (Nat.le_refl _)]
      refine ⟨fun a b ha hb => by rw [scMc a b ha hb, scc a b ha hb], fun a ha => ⟨?_, ?_, ?_⟩⟩
      · show F.1 34 0 0 (nI (bs j + a)) = _
        rw [e34, e5, (z2 _ (by omega) (by omega)).1, (z1 j a (Nat.le_refl _) hc (by omega)).1]
      · show F.1 35 0 0 (nI (bs j + a)) = _
        rw [e35, e6, (z2 _ (by omega) (by omega)).2, (z1 j a (Nat.le_refl _) hc (by omega)).2]
      · show F.1 36 0 0 (nI (bs j + a)) = _
        rw [(f33 a ha).2, f7 a ha]
    · rw [eN j hj, eB j (by omega)]
      refine ⟨(by rw [scMo]; exact (hP j hj).1.tr (scF j hj).sm), fun a ha => ⟨?_, ?_, ?_⟩⟩
      · show F.1 34 0 0 (nI (bs j + a)) = _
        rw [e34, e5]
        exact ((hP j hj).2 a ha).1
      · show F.1 35 0 0 (nI (bs j + a)) = _
        rw [e35, e6]
        exact ((hP j hj).2 a ha).2.1
      · have n5 := (hC.n3 hj).2
        show F.1 36 0 0 (nI (bs j + a)) = _
        rw [(f33o _ (tl hj ha).1).2, f7o j (by omega) (by omega) a (by omega)]
        exact ((hP j hj).2 a ha).2.2
  · rw [e5, e6]
    exact z1 i a (by omega) h2 h3
  · rw [e34, e35]
    exact z2 t (by omega) h2
  · rw [e37]
    exact z3 k (by omega) h2
/-! what the two calls write -/
theorem opRow_g {F : XF} {g a g' : Int32} (h : g' ≠ g) : ∀ j, opRow F g a j 4 g' = F 4 g'
  | 0 => rfl
  | j + 1 => by
    funext a' b'
    show xs (opRow F g a j) 4 g a (nI j) (-1) 4 g' a' b' = _
    unfold xs
    rw [if_neg (fun w => h w.2.1), opRow_g h j]
theorem opRow_a {F : XF} {g a a' : Int32} (h : a' ≠ a) : ∀ j, opRow F g a j 4 g a' = F 4 g a'
  | 0 => rfl
  | j + 1 => by
    funext b'
    show xs (opRow F g a j) 4 g a (nI j) (-1) 4 g a' b' = _
    unfold xs
    rw [if_neg (fun w => h w.2.2.1), opRow_a h j]
theorem opRow_m {F : XF} {g a : Int32} {b : Nat} : ∀ j, b < j → opRow F g a j 4 g a (nI b) = -1
  | j + 1, h => by
    show xs (opRow F g a j) 4 g a (nI j) (-1) 4 g a (nI b) = _
    unfold xs
    by_cases e : b = j
    · rw [if_pos (by rw [e]; exact ⟨rfl, rfl, rfl, rfl⟩)]
    · by_cases e2 : nI b = nI j
      · rw [if_pos ⟨rfl, rfl, rfl, e2⟩]
      · rw [if_neg (fun w => e2 w.2.2.2)]
        exact opRow_m j (by omega)
theorem xs74 (G : XF) (g a v : Int32) : xs G 7 0 g a v 4 = G 4 := by
  funext u z j
  unfold xs
  rw [if_neg (fun w => absurd w.1 (by decide))]
theorem opAll_g {F : XF} {g f g' : Int32} {n : Nat} (h : g' ≠ g) : ∀ A, opAll F g f n A 4 g' = F 4 g'
  | 0 => rfl
  | A + 1 => by rw [opAll, opRow_g h, xs74, opAll_g h A]
theorem opAll_m {F : XF} {g f : Int32} {n a b : Nat} (hn : n ≤ 5) (hb : b < n) : ∀ A, A ≤ n → a < A → opAll F g f n A 4 g (nI a) (nI b) = -1
  | A + 1, hA, ha => by
    rw [opAll]
    by_cases e : a = A
    · rw [e]
      exact opRow_m n hb
    · rw [opRow_a (nIx (by omega) (by omega) e), xs74]
      exact opAll_m hn hb A (by omega) (by omega)
theorem opAll_7g {F : XF} {g f g' : Int32} {n : Nat} (h : g' ≠ g) : ∀ A, opAll F g f n A 7 0 g' = F 7 0 g'
  | 0 => rfl
  | A + 1 => by
    rw [opAll, opRow_k (by decide)]
    funext j
    unfold xs
    rw [if_neg (fun w => h w.2.2.1), opAll_7g h A]
theorem opAll_7m {F : XF} {g f : Int32} {n a : Nat} (hn : n ≤ 5) : ∀ A, A ≤ n → a < A → opAll F g f n A 7 0 g (nI a) = f + nI a
  | A + 1, hA, ha => by
    rw [opAll, opRow_k (by decide)]
    by_cases e : a = A
    · rw [e, xs_self]
    · rw [xs_nj _ _ _ _ _ (nIx (by omega) (by omega) e)]
      exact opAll_7m hn A (by omega) (by omega)
theorem agM_k {F : XF} {B c k : Nat} (h1 : k ≠ 33) (h2 : k ≠ 36) (h3 : k ≠ 30) : ∀ q, agM F B c q k = F k
  | 0 => rfl
  | q + 1 => by
    rw [agM]
    funext u z j
    unfold xs
    rw [if_neg (fun w => h3 w.1), if_neg (fun w => h2 w.1), if_neg (fun w => h1 w.1), agM_k h1 h2 h3 q]
theorem agM_33 {F : XF} {B c : Nat} (hB : B ≤ 25) {t : Nat} (ht : t < 31) : ∀ q, q ≤ 5 → agM F B c q 33 0 0 (nI t) = (if B ≤ t ∧ t < B + q then nI c else F 33 0 0 (nI t)) ∧ agM F B c q 36 0 0 (nI t) = (if B ≤ t ∧ t < B + q then nI t else F 36 0 0 (nI t))
  | 0, _ => ⟨by rw [if_neg (by omega)]; rfl, by rw [if_neg (by omega)]; rfl⟩
  | q + 1, hq => by
    obtain ⟨i1, i2⟩ := agM_33 hB ht q (by omega)
    rw [agM]
    have e : ∀ x y, x < 40 → y < 40 → (nI x = nI y ↔ x = y) := fun x y _ _ => ⟨fun w => nI_inj (by omega) (by omega) w, fun w => by rw [w]⟩
    constructor
    · unfold xs
      rw [if_neg (fun w => absurd w.1 (by decide)), if_neg (fun w => absurd w.1 (by decide))]
      by_cases h : t = B + q
      · rw [if_pos (by rw [h]; exact ⟨rfl, rfl, rfl, rfl⟩), if_pos (by omega)]
      · rw [if_neg (fun w => h ((e t (B + q) (by omega) (by omega)).mp w.2.2.2)), i1]
        by_cases h2 : B ≤ t ∧ t < B + q
        · rw [if_pos h2, if_pos (by omega)]
        · rw [if_neg h2, if_neg (by omega)]
    · unfold xs
      rw [if_neg (fun w => absurd w.1 (by decide))]
      by_cases h : t = B + q
      · rw [if_pos (by rw [h]; exact ⟨rfl, rfl, rfl, rfl⟩), if_pos (by omega), h]
      · rw [if_neg (fun w => h ((e t (B + q) (by omega) (by omega)).mp w.2.2.2)), if_neg (fun w => absurd w.1 (by decide)), i2]
        by_cases h2 : B ≤ t ∧ t < B + q
        · rw [if_pos h2, if_pos (by omega)]
        · rw [if_neg h2, if_neg (by omega)]
end Agr
