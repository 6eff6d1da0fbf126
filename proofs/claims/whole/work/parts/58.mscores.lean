/-! the reference: all small scores -/
section Bts
def bt (x : Int32) (i : Nat) : Bool := x.toBitVec.getLsbD i
theorem b_ext {x y : Int32} (h : ∀ i, i < 32 → bt x i = bt y i) : x = y := Int32.toBitVec_inj.mp (BitVec.eq_of_getLsbD_eq (fun i hi => h i hi))
theorem b_or (x y : Int32) (i : Nat) : bt (x ||| y) i = (bt x i || bt y i) := by unfold bt; rw [Int32.toBitVec_or, BitVec.getLsbD_or]
theorem b_and (x y : Int32) (i : Nat) : bt (x &&& y) i = (bt x i && bt y i) := by unfold bt; rw [Int32.toBitVec_and, BitVec.getLsbD_and]
theorem b_0 (i : Nat) : bt 0 i = false := BitVec.getLsbD_zero
theorem b_1 : ∀ i, i < 32 → bt 1 i = decide (i = 0) := by decide +kernel
theorem s_l : ∀ n, n < 32 → ((nI n &&& 31).toBitVec.smod 32).toNat = n := by decide +kernel
theorem b_shl (n : Nat) (hn : n < 32) (x : Int32) {i : Nat} (hi : i < 32) : bt (x <<< (nI n &&& 31)) i = (decide (n ≤ i) && bt x (i - n)) := by
  unfold bt
  rw [Int32.toBitVec_shiftLeft]
  show (x.toBitVec <<< ((nI n &&& 31).toBitVec.smod 32).toNat).getLsbD i = _
  rw [s_l n hn, BitVec.getLsbD_shiftLeft]
  rcases Nat.lt_or_ge i n with h | h
  · simp [h, Nat.not_le.mpr h]
  · simp [hi, h, Nat.not_lt.mpr h]
theorem b_sshr (n : Nat) (hn : n < 32) (x : Int32) {i : Nat} (hi : i < 32) : bt (x >>> (nI n &&& 31)) i = if n + i < 32 then bt x (n + i) else bt x 31 := by
  unfold bt
  rw [Int32.toBitVec_shiftRight]
  show (x.toBitVec.sshiftRight ((nI n &&& 31).toBitVec.smod 32).toNat).getLsbD i = _
  rw [s_l n hn, BitVec.getLsbD_sshiftRight, BitVec.msb_eq_getLsbD_last]
  simp [hi]
/-- a mask, bit by bit -/
def opM (B : Nat → Bool) : Nat → Int32
  | 0 => 0
  | k + 1 => opM B k ||| (if B k = true then 1 <<< (nI k &&& 31) else 0)
theorem opM_bt (B : Nat → Bool) {i : Nat} (hi : i < 32) : ∀ m, m ≤ 25 → bt (opM B m) i = (decide (i < m) && B i)
  | 0, _ => by rw [opM, b_0]; simp
  | m + 1, hm => by
    rw [opM, b_or, opM_bt B hi m (by omega)]
    by_cases hB : B m = true
    · rw [if_pos hB, b_shl m (by omega) 1 hi, b_1 _ (by omega)]
      by_cases h1 : i = m
      · subst h1
        simp [hB]
      · by_cases h2 : i < m
        · rw [decide_eq_true h2, decide_eq_false (show ¬ m ≤ i by omega), decide_eq_true (show i < m + 1 by omega)]
          simp
        · rw [decide_eq_false h2, decide_eq_false (show ¬ i - m = 0 by omega), decide_eq_false (show ¬ i < m + 1 by omega)]
          simp
    · rw [if_neg hB, b_0, Bool.or_false]
      by_cases h1 : i = m
      · subst h1
        rw [Bool.not_eq_true] at hB
        simp [hB]
      · by_cases h2 : i < m
        · rw [decide_eq_true h2, decide_eq_true (show i < m + 1 by omega)]
        · rw [decide_eq_false h2, decide_eq_false (show ¬ i < m + 1 by omega)]
theorem opM_bit (B : Nat → Bool) {k : Nat} (hk : k < 25) : (opM B 25 >>> (nI k &&& 31)) &&& 1 = if B k = true then 1 else 0 := by
  apply b_ext
  intro i hi
  rw [b_and, b_1 i hi, b_sshr k (by omega) _ hi]
  by_cases h0 : i = 0
  · subst h0
    rw [if_pos (by omega), Nat.add_zero, opM_bt B (by omega) 25 (Nat.le_refl _), decide_eq_true hk]
    by_cases hB : B k = true
    · rw [if_pos hB, hB]; rfl
    · rw [if_neg hB, b_0]
      simp at hB
      simp [hB]
  · rw [decide_eq_false h0, Bool.and_false]
    by_cases hB : B k = true
    · rw [if_pos hB, b_1 i hi, decide_eq_false h0]
    · rw [if_neg hB, b_0]
end Bts
section Lay
variable {n b : Nat} {X Y : XT} {f g : Nat → Int32} {L : List (Nat × Nat)}
/-- whether a match is left, by its place in the square -/
def opB (S : Nat → Nat → Int32) (n k : Nat) : Bool := decide (k / 5 < k % 5) && (decide (k % 5 < n) && decide (S (k / 5) (k % 5) = -1))
def opL (S : Nat → Nat → Int32) (n k q : Nat) : List (Nat × Nat) := ((List.range' k q).filter (opB S n)).map (fun k => (k / 5, k % 5))
theorem opL_t {S : Nat → Nat → Int32} {k : Nat} (q : Nat) (h : opB S n k = true) : opL S n k (q + 1) = (k / 5, k % 5) :: opL S n (k + 1) q := by
  unfold opL
  rw [List.range'_succ, List.filter_cons, if_pos h, List.map_cons]
theorem opL_f {S : Nat → Nat → Int32} {k : Nat} (q : Nat) (h : ¬ opB S n k = true) : opL S n k (q + 1) = opL S n (k + 1) q := by
  unfold opL
  rw [List.range'_succ, List.filter_cons, if_neg h]
theorem opL_all (S : Nat → Nat → Int32) (h3 : 3 ≤ n) (h5 : n ≤ 5) : opL S n 0 25 = lfA S n := by
  have h0 : allQ n 0 n = ((List.range' 0 25).filter (fun k => decide (k / 5 < k % 5) && decide (k % 5 < n))).map (fun k => (k / 5, k % 5)) := by
    rcases (show n = 3 ∨ n = 4 ∨ n = 5 by omega) with rfl | rfl | rfl <;> decide
  unfold opL lfA
  rw [h0, List.filter_map, List.filter_filter]
  congr 1
  apply List.filter_congr
  intro k _
  show (decide (k / 5 < k % 5) && (decide (k % 5 < n) && decide (S (k / 5) (k % 5) = -1))) = (decide (S (k / 5) (k % 5) = -1) && (decide (k / 5 < k % 5) && decide (k % 5 < n)))
  rw [← Bool.and_assoc, Bool.and_comm]
/-- results laid in a list of matches -/
def layG (f g : Nat → Int32) (b : Nat) : XT → List (Nat × Nat) → Nat → XT
  | X, [], _ => X
  | X, p :: L, r => layG f g b (layX X b p.1 p.2 (f r) (g r)) L (r / 9)
theorem layX_at (X : XT) (b a a' : Nat) (v w u z j : Int32) : (layX X b a a' v w).1 37 u z j = if u = 0 ∧ z = 0 ∧ j = nI (5 * (b + a') + a) then w else if u = 0 ∧ z = 0 ∧ j = nI (5 * (b + a) + a') then v else X.1 37 u z j := by
  show xs (xs X.1 37 0 0 (nI (5 * (b + a) + a')) v) 37 0 0 (nI (5 * (b + a') + a)) w 37 u z j = _
  unfold xs
  simp only [true_and]
theorem layG_fr : ∀ (L : List (Nat × Nat)) (X : XT) (r : Nat), Fr [37] X (layG f g b X L r)
  | [], X, _ => Fr.rf _ _
  | p :: L, X, r => (lay_fr X b p.1 p.2 (f r) (g r)).tr (layG_fr L _ (r / 9))
/-- a cell of one of these matches -/
def clM (b : Nat) (L : List (Nat × Nat)) (u z j : Int32) : Prop := ∃ p, p ∈ L ∧ u = 0 ∧ z = 0 ∧ (j = nI (5 * (b + p.2) + p.1) ∨ j = nI (5 * (b + p.1) + p.2))
theorem layG_out : ∀ (L : List (Nat × Nat)) (X : XT) (r : Nat) (u z j : Int32), ¬ clM b L u z j → (layG f g b X L r).1 37 u z j = X.1 37 u z j
  | [], X, _, _, _, _, _ => rfl
  | p :: L, X, r, u, z, j, h => by
    rw [layG, layG_out L _ _ u z j (fun ⟨q, hq, q2⟩ => h ⟨q, List.mem_cons_of_mem _ hq, q2⟩), layX_at, if_neg (fun q => h ⟨p, List.mem_cons_self .., q.1, q.2.1, Or.inl q.2.2⟩), if_neg (fun q => h ⟨p, List.mem_cons_self .., q.1, q.2.1, Or.inr q.2.2⟩)]
theorem layG_ag : ∀ (L : List (Nat × Nat)) (X Y : XT) (r : Nat), Fr [37, 38, 39, 40, 41] X Y → (∀ u z j, ¬ clM b L u z j → Y.1 37 u z j = X.1 37 u z j) → Fr [38, 39, 40, 41] (layG f g b X L r) (layG f g b Y L r)
  | [], X, Y, r, hf, h => by
    refine ⟨hf.1, fun k hk => ?_⟩
    by_cases h37 : k = 37
    · subst h37
      funext u z j
      exact h u z j (fun ⟨q, hq, _⟩ => by cases hq)
    · exact hf.2 k (by simp at hk ⊢; omega)
  | p :: L, X, Y, r, hf, h => by
    rw [layG, layG]
    refine layG_ag L _ _ _ ⟨hf.1, fun k hk => ?_⟩ (fun u z j hj => ?_)
    · have h37 : k ∉ [37] := by simp at hk ⊢; omega
      rw [(lay_fr Y b p.1 p.2 (f r) (g r)).2 k h37, (lay_fr X b p.1 p.2 (f r) (g r)).2 k h37, hf.2 k hk]
    · rw [layX_at, layX_at]
      by_cases h1 : u = 0 ∧ z = 0 ∧ j = nI (5 * (b + p.2) + p.1)
      · rw [if_pos h1, if_pos h1]
      · rw [if_neg h1, if_neg h1]
        by_cases h2 : u = 0 ∧ z = 0 ∧ j = nI (5 * (b + p.1) + p.2)
        · rw [if_pos h2, if_pos h2]
        · rw [if_neg h2, if_neg h2]
          refine h u z j ?_
          rintro ⟨q, hq, q1, q2, q3⟩
          rcases List.mem_cons.mp hq with rfl | hq
          · rcases q3 with q3 | q3
            · exact h1 ⟨q1, q2, q3⟩
            · exact h2 ⟨q1, q2, q3⟩
          · exact hj ⟨q, hq, q1, q2, q3⟩
theorem MV_lay {a a' : Nat} {v w : Int32} (h : MV X b n) (h5 : n ≤ 5) (hb : b ≤ 30) (ha : a < n) (ha' : a' < n) (hne : a ≠ a') (hv : VW v w) : MV (layX X b a a' v w) b n := by
  have e := scM_lay (n := n) (p := (a, a')) (v := v) (w := w) X b hb h5 (show a < 5 by omega) (show a' < 5 by omega)
  have hf := lay_fr X b a a' v w
  refine ⟨SY_SE e.sm (SY_put h.1 hne hv), SB_SE e.sm (SB_put h.2.1 hv), ?_⟩
  rw [awM_fr hf (by decide), caM_fr hf (by decide), loM_fr hf (by decide)]
  exact h.2.2
theorem MV_layG (hv : ∀ r, VW (f r) (g r)) (h5 : n ≤ 5) (hb : b ≤ 30) : ∀ (L : List (Nat × Nat)) (X : XT) (r : Nat), (∀ p, p ∈ L → p.1 < n ∧ p.2 < n ∧ p.1 ≠ p.2) → MV X b n → MV (layG f g b X L r) b n
  | [], X, r, _, h => h
  | p :: L, X, r, hL, h => by
    have hp := hL p (List.mem_cons_self ..)
    rw [layG]
    exact MV_layG hv h5 hb L _ _ (fun q hq => hL q (List.mem_cons_of_mem _ hq)) (MV_lay h h5 hb hp.1 hp.2.1 hp.2.2 (hv r))
/-- the digits of a way -/
abbrev dgL (r : Nat) : Int32 := nI (r % 3)
abbrev dgU (r : Nat) : Int32 := nI (r / 3 % 3)
theorem dg_ok (r : Nat) : VW (dgL r) (dgU r) := Or.inr ⟨⟨r % 3, by omega, rfl⟩, r / 3 % 3, by omega, rfl⟩
theorem scM_layG (h5 : n ≤ 5) (hb : b ≤ 30) : ∀ (L : List (Nat × Nat)) (X : XT) (r : Nat), (∀ p, p ∈ L → p.1 < n ∧ p.2 < n ∧ p.1 ≠ p.2) → SE (scM (layG dgL dgU b X L r) b) (layS (scM X b) L r) n
  | [], X, r, _ => SE.rf _ _
  | p :: L, X, r, hL => by
    have hp := hL p (List.mem_cons_self ..)
    rw [layG, layS]
    exact (scM_layG h5 hb L _ _ (fun q hq => hL q (List.mem_cons_of_mem _ hq))).tr (layS_SE L (r / 9) (scM_lay (n := n) X b hb h5 (by omega) (by omega)))
/-- laid back as it was -/
theorem layG_bk : ∀ (L : List (Nat × Nat)) (X : XT) (r : Nat), (∀ p, p ∈ L → scM X b p.1 p.2 = -1 ∧ scM X b p.2 p.1 = -1) → Fr [] X (layG (fun _ => -1) (fun _ => -1) b X L r)
  | [], X, r, _ => Fr.rf _ _
  | p :: L, X, r, hL => by
    have hp := hL p (List.mem_cons_self ..)
    have h1 : Fr [] X (layX X b p.1 p.2 (-1) (-1)) := by
      refine ⟨rfl, fun k _ => ?_⟩
      by_cases h37 : k = 37
      · subst h37
        funext u z j
        rw [layX_at]
        by_cases h1 : u = 0 ∧ z = 0 ∧ j = nI (5 * (b + p.2) + p.1)
        · rw [if_pos h1, h1.1, h1.2.1, h1.2.2]
          exact hp.2.symm
        · rw [if_neg h1]
          by_cases h2 : u = 0 ∧ z = 0 ∧ j = nI (5 * (b + p.1) + p.2)
          · rw [if_pos h2, h2.1, h2.2.1, h2.2.2]
            exact hp.1.symm
          · rw [if_neg h2]
      · exact (lay_fr X b p.1 p.2 (-1) (-1)).2 k (by simpa using h37)
    rw [layG]
    refine h1.tr (layG_bk L _ _ (fun q hq => ?_))
    rw [scM_fr h1 (by decide)]
    exact hL q (List.mem_cons_of_mem _ hq)
end Lay
