/-! the reference: ways -/
/-- points after a way: the digits of its number are the outcomes of the matches, the first match's first -/
def fp (γ : Nat → Int) : List (Nat × Nat) → Nat → Nat → Int
  | [], _ => γ
  | p :: L, w => fp (gpl γ p (w % 3)) L (w / 3)
theorem fp_app (L2 : List (Nat × Nat)) : ∀ (L1 : List (Nat × Nat)) (γ : Nat → Int) (w : Nat), fp γ (L1 ++ L2) w = fp (fp γ L1 w) L2 (w / 3 ^ L1.length)
  | [], γ, w => by simp [fp]
  | p :: L, γ, w => by
    rw [List.cons_append, fp, fp, fp_app L2 L, Nat.div_div_eq_div_mul, List.length_cons, Nat.pow_succ, Nat.mul_comm 3]
theorem fp_last (p : Nat × Nat) {o : Nat} (ho : o < 3) : ∀ (L : List (Nat × Nat)) (γ : Nat → Int) (r : Nat), r < 3 ^ L.length → fp γ (L ++ [p]) (o * 3 ^ L.length + r) = fp (gpl γ p o) L r
  | [], γ, r, hr => by
    rw [List.length_nil, Nat.pow_zero] at hr
    rw [List.nil_append, List.length_nil, Nat.pow_zero, Nat.mul_one, show r = 0 by omega, Nat.add_zero, fp, fp, fp, Nat.mod_eq_of_lt ho]
  | q :: L, γ, r, hr => by
    rw [List.length_cons, Nat.pow_succ] at hr ⊢
    rw [List.cons_append, fp, fp]
    have e1 : (o * (3 ^ L.length * 3) + r) % 3 = r % 3 := by rw [← Nat.mul_assoc]; omega
    have e2 : (o * (3 ^ L.length * 3) + r) / 3 = o * 3 ^ L.length + r / 3 := by rw [← Nat.mul_assoc]; omega
    rw [e1, e2, fp_last p ho L _ (r / 3) (by omega), gpl_swap]
theorem ct_app (p : Nat → Bool) (a : Nat) : ∀ b, ct p (a + b) = ct p a + ct (fun j => p (a + j)) b
  | 0 => rfl
  | b + 1 => by
    show ct p (a + b) + _ = ct p a + (ct (fun j => p (a + j)) b + _)
    rw [ct_app p a b, Nat.add_assoc]
    rfl
theorem list_rev {P : List (Nat × Nat) → Prop} (h0 : P []) (h1 : ∀ L p, P L → P (L ++ [p])) (L : List (Nat × Nat)) : P L := by
  have : ∀ R : List (Nat × Nat), P R.reverse := by
    intro R
    induction R with
    | nil => exact h0
    | cons p R ih =>
      rw [List.reverse_cons]
      exact h1 _ p ih
  have h := this L.reverse
  rwa [List.reverse_reverse] at h
/-- counting through all numbers of ways -/
theorem cntL_ct (pass : (Nat → Int) → Bool) (L : List (Nat × Nat)) : ∀ γ, cntL pass L.reverse γ = ct (fun w => pass (fp γ L w)) (3 ^ L.length) := by
  refine list_rev (P := fun L => ∀ γ, cntL pass L.reverse γ = ct (fun w => pass (fp γ L w)) (3 ^ L.length)) ?_ ?_ L
  · intro γ
    show (if pass γ = true then 1 else 0) = 0 + (if pass γ = true then 1 else 0)
    omega
  · intro L p ih γ
    rw [List.reverse_append, List.reverse_singleton, List.singleton_append, cntL]
    have e : (L ++ [p]).length = L.length + 1 := by simp
    rw [e, Nat.pow_succ, show 3 ^ L.length * 3 = 3 ^ L.length + 3 ^ L.length + 3 ^ L.length by omega, ct_app, ct_app]
    show cntL pass L.reverse (gpl γ p 0) + (cntL pass L.reverse (gpl γ p 1) + (cntL pass L.reverse (gpl γ p 2) + 0)) = _
    rw [ih, ih, ih]
    have k : ∀ o, o < 3 → ct (fun w => pass (fp (gpl γ p o) L w)) (3 ^ L.length) = ct (fun w => pass (fp γ (L ++ [p]) (o * 3 ^ L.length + w))) (3 ^ L.length) := fun o ho => ct_congr fun w hw => by rw [fp_last p ho L γ w hw]
    rw [k 0 (by decide), k 1 (by decide), k 2 (by decide)]
    have z0 : ∀ w, 0 * 3 ^ L.length + w = w := fun w => by omega
    have z1 : ∀ w, 1 * 3 ^ L.length + w = 3 ^ L.length + w := fun w => by omega
    have z2 : ∀ w, 2 * 3 ^ L.length + w = 3 ^ L.length + 3 ^ L.length + w := fun w => by omega
    simp only [z0, z1, z2]
    omega
/-- the first number below a bound -/
def fsW (f : Nat → Bool) : Nat → Option Nat
  | 0 => none
  | m + 1 => match fsW f m with
    | some x => some x
    | none => if f m = true then some m else none
theorem fsW_congr {f f' : Nat → Bool} : ∀ {m}, (∀ j, j < m → f j = f' j) → fsW f m = fsW f' m
  | 0, _ => rfl
  | m + 1, h => by rw [fsW, fsW, fsW_congr (fun j hj => h j (by omega)), h m (by omega)]
theorem fsW_app (f : Nat → Bool) (a : Nat) : ∀ b, fsW f (a + b) = match fsW f a with
    | some x => some x
    | none => (fsW (fun j => f (a + j)) b).map (a + ·)
  | 0 => by
    show fsW f a = _
    cases fsW f a <;> rfl
  | b + 1 => by
    show (match fsW f (a + b) with
      | some x => some x
      | none => if f (a + b) = true then some (a + b) else none) = _
    rw [fsW_app f a b]
    cases fsW f a with
    | some x => rfl
    | none =>
      rw [fsW]
      cases fsW (fun j => f (a + j)) b with
      | some x => rfl
      | none =>
        show (if f (a + b) = true then some (a + b) else none) = (if f (a + b) = true then some b else none).map (a + ·)
        split <;> rfl
theorem lowL_fs (pass : (Nat → Int) → Bool) (L : List (Nat × Nat)) : ∀ γ, lowL pass L.reverse γ = fsW (fun w => pass (fp γ L w)) (3 ^ L.length) := by
  refine list_rev (P := fun L => ∀ γ, lowL pass L.reverse γ = fsW (fun w => pass (fp γ L w)) (3 ^ L.length)) ?_ ?_ L
  · intro γ
    rfl
  · intro L p ih γ
    rw [List.reverse_append, List.reverse_singleton, List.singleton_append, lowL]
    have e : (L ++ [p]).length = L.length + 1 := by simp
    have k : ∀ o, o < 3 → lowL pass L.reverse (gpl γ p o) = fsW (fun w => pass (fp γ (L ++ [p]) (o * 3 ^ L.length + w))) (3 ^ L.length) := fun o ho => by
      rw [ih]
      exact fsW_congr fun w hw => by rw [fp_last p ho L γ w hw]
    have z0 : ∀ w, 0 * 3 ^ L.length + w = w := fun w => by omega
    have z1 : ∀ w, 1 * 3 ^ L.length + w = 3 ^ L.length + w := fun w => by omega
    have z2 : ∀ w, 2 * 3 ^ L.length + w = 3 ^ L.length + 3 ^ L.length + w := fun w => by omega
    have k0 := k 0 (by decide)
    have k1 := k 1 (by decide)
    have k2 := k 2 (by decide)
    simp only [z0, z1, z2] at k0 k1 k2
    rw [e, Nat.pow_succ, show 3 ^ L.length * 3 = 3 ^ L.length + 3 ^ L.length + 3 ^ L.length by omega, fsW_app, fsW_app, List.length_reverse]
    show (match lowL pass L.reverse (gpl γ p 0) with
      | some x => some ((2 - 2) * 3 ^ L.length + x)
      | none => match lowL pass L.reverse (gpl γ p 1) with
        | some x => some ((2 - 1) * 3 ^ L.length + x)
        | none => match lowL pass L.reverse (gpl γ p 2) with
          | some x => some ((2 - 0) * 3 ^ L.length + x)
          | none => none) = _
    rw [k0, k1, k2]
    generalize 3 ^ L.length = m
    cases fsW (fun w => pass (fp γ (L ++ [p]) w)) m with
    | some x => simp
    | none =>
      cases fsW (fun w => pass (fp γ (L ++ [p]) (m + w))) m with
      | some x => simp
      | none =>
        cases fsW (fun w => pass (fp γ (L ++ [p]) (m + m + w))) m with
        | some x =>
          simp
          omega
        | none => simp
section Mwy
variable {sc : SC} {d : Nat} {X : XT} {i b n : Nat}
theorem dv3g {w : Nat} (h : w < 2 ^ 31) : nI w / 3 = nI (w / 3) ∧ nI w - nI (w / 3) * 3 = nI (w % 3) := by
  constructor
  · exact (Int32.ofNat_div h (by decide)).symm
  · rw [show (3 : Int32) = nI 3 from rfl, nI_ml]
    have e : nI w = nI (w / 3 * 3 + w % 3) := by congr 1; omega
    rw [e, nI_sb]
/-- the matches left, counted by the reference -/
theorem left_len {S : Nat → Nat → Int32} (hS : SY S n) (h3 : 3 ≤ n) (h5 : n ≤ 5) : sumR (fun k => ct (fun o => decide (S k o = -1)) k) n = (lfA S n).length := by
  have hs := hS.2
  have hF : ∀ (p : Nat × Nat) (L : List (Nat × Nat)), ((p :: L).filter (fun p => decide (S p.1 p.2 = -1))).length = (if S p.1 p.2 = -1 then 1 else 0) + (L.filter (fun p => decide (S p.1 p.2 = -1))).length := by
    intro p L
    by_cases h : S p.1 p.2 = -1
    · rw [List.filter_cons, if_pos (by rw [decide_eq_true_eq]; exact h), List.length_cons, if_pos h, Nat.add_comm]
    · rw [List.filter_cons, if_neg (by rw [decide_eq_true_eq]; exact h), if_neg h, Nat.zero_add]
  have hc : ∀ k o, k < n → o < k → (if decide (S k o = -1) = true then 1 else 0) = (if S o k = -1 then 1 else 0 : Nat) := by
    intro k o hk ho
    by_cases h : S k o = -1
    · rw [if_pos (by rw [decide_eq_true_eq]; exact h), if_pos ((hs k o hk (by omega)).mp h)]
    · rw [if_neg (by rw [decide_eq_true_eq]; exact h), if_neg (fun w => h ((hs k o hk (by omega)).mpr w))]
  unfold lfA
  rcases (show n = 3 ∨ n = 4 ∨ n = 5 by omega) with rfl | rfl | rfl
  · rw [show allQ 3 0 3 = [(0, 1), (0, 2), (1, 2)] from rfl, hF, hF, hF]
    simp only [sumR, ct, List.filter_nil, List.length_nil]
    rw [hc 1 0 (by decide) (by decide), hc 2 0 (by decide) (by decide), hc 2 1 (by decide) (by decide)]
    generalize (if S 0 1 = -1 then 1 else 0 : Nat) = x1
    generalize (if S 0 2 = -1 then 1 else 0 : Nat) = x2
    generalize (if S 1 2 = -1 then 1 else 0 : Nat) = x3
    omega
  · rw [show allQ 4 0 4 = [(0, 1), (0, 2), (0, 3), (1, 2), (1, 3), (2, 3)] from rfl, hF, hF, hF, hF, hF, hF]
    simp only [sumR, ct, List.filter_nil, List.length_nil]
    rw [hc 1 0 (by decide) (by decide), hc 2 0 (by decide) (by decide), hc 2 1 (by decide) (by decide), hc 3 0 (by decide) (by decide), hc 3 1 (by decide) (by decide), hc 3 2 (by decide) (by decide)]
    generalize (if S 0 1 = -1 then 1 else 0 : Nat) = x1
    generalize (if S 0 2 = -1 then 1 else 0 : Nat) = x2
    generalize (if S 0 3 = -1 then 1 else 0 : Nat) = x3
    generalize (if S 1 2 = -1 then 1 else 0 : Nat) = x4
    generalize (if S 1 3 = -1 then 1 else 0 : Nat) = x5
    generalize (if S 2 3 = -1 then 1 else 0 : Nat) = x6
    omega
  · rw [show allQ 5 0 5 = [(0, 1), (0, 2), (0, 3), (0, 4), (1, 2), (1, 3), (1, 4), (2, 3), (2, 4), (3, 4)] from rfl, hF, hF, hF, hF, hF, hF, hF, hF, hF, hF]
    simp only [sumR, ct, List.filter_nil, List.length_nil]
    rw [hc 1 0 (by decide) (by decide), hc 2 0 (by decide) (by decide), hc 2 1 (by decide) (by decide), hc 3 0 (by decide) (by decide), hc 3 1 (by decide) (by decide), hc 3 2 (by decide) (by decide), hc 4 0 (by decide) (by decide), hc 4 1 (by decide) (by decide), hc 4 2 (by decide) (by decide), hc 4 3 (by decide) (by decide)]
    generalize (if S 0 1 = -1 then 1 else 0 : Nat) = x1
    generalize (if S 0 2 = -1 then 1 else 0 : Nat) = x2
    generalize (if S 0 3 = -1 then 1 else 0 : Nat) = x3
    generalize (if S 0 4 = -1 then 1 else 0 : Nat) = x7
    generalize (if S 1 2 = -1 then 1 else 0 : Nat) = x4
    generalize (if S 1 3 = -1 then 1 else 0 : Nat) = x5
    generalize (if S 1 4 = -1 then 1 else 0 : Nat) = x8
    generalize (if S 2 3 = -1 then 1 else 0 : Nat) = x6
    generalize (if S 2 4 = -1 then 1 else 0 : Nat) = x9
    generalize (if S 3 4 = -1 then 1 else 0 : Nat) = x10
    omega
theorem s_Mleft (h : MS X i b n) (hS : SY (scM X b) n) : Ev sc (d + 2) 99 0 (ent 99 [vR 30 0 0, vI (nI i)]) [] X (.inl (some (.inl (nI (lfA (scM X b) n).length)))) X 0 := by
  have h0 := h
  obtain ⟨⟨h1, h2, h3, h4⟩, h5, h6, h7⟩ := h
  have vi : vp_in (nI i) 6 := vpn (by omega) (by decide)
  rw [← left_len hS h2 h3]
  have outer : ∀ k, k ≤ n → ∀ z4, Ev sc (d + 2) 99 1 [vR 30 0 0, vI (nI i), vI (nI (sumR (fun k => ct (fun o => decide (scM X b k o = -1)) k) k)), vI (nI (b + k)), z4] [] X (.inl (some (.inl (nI (sumR (fun k => ct (fun o => decide (scM X b k o = -1)) k) n))))) X 0 := by
    apply loop_up
    · intro z4
      refine ev_seg rfl ?_
      simp only [TE, sxs, sx, ldI, ldA, stI, stA, inc, gtF, ptF, ldX, stX, ldR, ldL, stL, dp1, dp2, Tm, kS0, kS1, kS2, kS3, kS4, kS5, kS6, kS7, kS8, kS9, kS10, kS11, kS12, kS13, kS14, kS15, kS16, kS17, kS18, kS19, kS20, kS21, kS22, kS23, kS24, kS25, kS26, kS27, kS28, kS30, kS31, kS32, kS33, kS34, kS35, kS36, kS37, kS38, kS39, kS40, kS41, kS42, kS43, kS51, kS52, kS53, List.getElem?_cons_zero, List.getElem?_cons_succ, List.set_cons_zero, List.set_cons_succ, List.length_cons, List.length_nil, List.drop_succ_cons, List.drop_zero, List.cons_append, List.nil_append, Option.toList_some, Option.toList_none, cz, ci2, true_and, and_true, and_self, true_or, or_true, nI_1, Nat.reduceAdd, Nat.reduceLT, h5, h6, nI_ad]
      refine ⟨(by first | assumption | (and_intros <;> first | assumption | trivial | decide)), fun _ => ?_, fun w => absurd (nleI (Nat.le_refl _) (by omega)) w⟩
      refine ev_seg rfl ?_
      simp only [TE, sxs, sx, ldI, ldA, stI, stA, inc, gtF, ptF, ldX, stX, ldR, ldL, stL, dp1, dp2, Tm, kS0, kS1, kS2, kS3, kS4, kS5, kS6, kS7, kS8, kS9, kS10, kS11, kS12, kS13, kS14, kS15, kS16, kS17, kS18, kS19, kS20, kS21, kS22, kS23, kS24, kS25, kS26, kS27, kS28, kS30, kS31, kS32, kS33, kS34, kS35, kS36, kS37, kS38, kS39, kS40, kS41, kS42, kS43, kS51, kS52, kS53, List.getElem?_cons_zero, List.getElem?_cons_succ, List.set_cons_zero, List.set_cons_succ, List.length_cons, List.length_nil, List.drop_succ_cons, List.drop_zero, List.cons_append, List.nil_append, Option.toList_some, Option.toList_none, cz, ci2, true_and, and_true, and_self, true_or, or_true, nI_1, Nat.reduceAdd, Nat.reduceLT]
    · intro k hk ih z4
      have inner : ∀ o, o ≤ k → Ev sc (d + 2) 99 3 [vR 30 0 0, vI (nI i), vI (nI (sumR (fun k => ct (fun o => decide (scM X b k o = -1)) k) k + ct (fun o => decide (scM X b k o = -1)) o)), vI (nI (b + k)), vI (nI (b + o))] [] X (.inl (some (.inl (nI (sumR (fun k => ct (fun o => decide (scM X b k o = -1)) k) n))))) X 0 := by
        apply loop_up
        · have ih := ih (vI (nI (b + k)))
          refine ev_seg rfl ?_
          simp only [TE, sxs, sx, ldI, ldA, stI, stA, inc, gtF, ptF, ldX, stX, ldR, ldL, stL, dp1, dp2, Tm, kS0, kS1, kS2, kS3, kS4, kS5, kS6, kS7, kS8, kS9, kS10, kS11, kS12, kS13, kS14, kS15, kS16, kS17, kS18, kS19, kS20, kS21, kS22, kS23, kS24, kS25, kS26, kS27, kS28, kS30, kS31, kS32, kS33, kS34, kS35, kS36, kS37, kS38, kS39, kS40, kS41, kS42, kS43, kS51, kS52, kS53, List.getElem?_cons_zero, List.getElem?_cons_succ, List.set_cons_zero, List.set_cons_succ, List.length_cons, List.length_nil, List.drop_succ_cons, List.drop_zero, List.cons_append, List.nil_append, Option.toList_some, Option.toList_none, cz, ci2, true_and, and_true, and_self, true_or, or_true, nI_1, Nat.reduceAdd, Nat.reduceLT]
          refine ⟨fun _ => ?_, fun w => absurd (nleI (Nat.le_refl _) (by omega)) w⟩
          refine ev_seg rfl ?_
          simp only [TE, sxs, sx, ldI, ldA, stI, stA, inc, gtF, ptF, ldX, stX, ldR, ldL, stL, dp1, dp2, Tm, kS0, kS1, kS2, kS3, kS4, kS5, kS6, kS7, kS8, kS9, kS10, kS11, kS12, kS13, kS14, kS15, kS16, kS17, kS18, kS19, kS20, kS21, kS22, kS23, kS24, kS25, kS26, kS27, kS28, kS30, kS31, kS32, kS33, kS34, kS35, kS36, kS37, kS38, kS39, kS40, kS41, kS42, kS43, kS51, kS52, kS53, List.getElem?_cons_zero, List.getElem?_cons_succ, List.set_cons_zero, List.set_cons_succ, List.length_cons, List.length_nil, List.drop_succ_cons, List.drop_zero, List.cons_append, List.nil_append, Option.toList_some, Option.toList_none, cz, ci2, true_and, and_true, and_self, true_or, or_true, nI_1, Nat.reduceAdd, Nat.reduceLT]
          exact ih
        · intro o ho iho
          refine ev_seg rfl ?_
          simp only [TE, sxs, sx, ldI, ldA, stI, stA, inc, gtF, ptF, ldX, stX, ldR, ldL, stL, dp1, dp2, Tm, kS0, kS1, kS2, kS3, kS4, kS5, kS6, kS7, kS8, kS9, kS10, kS11, kS12, kS13, kS14, kS15, kS16, kS17, kS18, kS19, kS20, kS21, kS22, kS23, kS24, kS25, kS26, kS27, kS28, kS30, kS31, kS32, kS33, kS34, kS35, kS36, kS37, kS38, kS39, kS40, kS41, kS42, kS43, kS51, kS52, kS53, List.getElem?_cons_zero, List.getElem?_cons_succ, List.set_cons_zero, List.set_cons_succ, List.length_cons, List.length_nil, List.drop_succ_cons, List.drop_zero, List.cons_append, List.nil_append, Option.toList_some, Option.toList_none, cz, ci2, true_and, and_true, and_self, true_or, or_true, nI_1, Nat.reduceAdd, Nat.reduceLT]
          refine ⟨fun w => absurd w (nle (by omega) (by omega)), fun _ => ?_⟩
          refine ev_seg rfl ?_
          simp only [TE, sxs, sx, ldI, ldA, stI, stA, inc, gtF, ptF, ldX, stX, ldR, ldL, stL, dp1, dp2, Tm, kS0, kS1, kS2, kS3, kS4, kS5, kS6, kS7, kS8, kS9, kS10, kS11, kS12, kS13, kS14, kS15, kS16, kS17, kS18, kS19, kS20, kS21, kS22, kS23, kS24, kS25, kS26, kS27, kS28, kS30, kS31, kS32, kS33, kS34, kS35, kS36, kS37, kS38, kS39, kS40, kS41, kS42, kS43, kS51, kS52, kS53, List.getElem?_cons_zero, List.getElem?_cons_succ, List.set_cons_zero, List.set_cons_succ, List.length_cons, List.length_nil, List.drop_succ_cons, List.drop_zero, List.cons_append, List.nil_append, Option.toList_some, Option.toList_none, cz, ci2, true_and, and_true, and_self, true_or, or_true, nI_1, Nat.reduceAdd, Nat.reduceLT]
          refine cv3 rfl rfl (by first | exact rfl | exact trivial) (s_MisPlayed h0 hk (by omega)) ?_
          by_cases hr : scM X b k o = -1
          · have e1 : ct (fun o => decide (scM X b k o = -1)) (o + 1) = ct (fun o => decide (scM X b k o = -1)) o + 1 := by
              rw [ct, if_pos (by rw [decide_eq_true_eq]; exact hr)]
            rw [e1, ← Nat.add_assoc] at iho
            rw [bI_f (p := ¬ scM X b k o = -1) (fun w => w hr)]
            refine ev_seg rfl ?_
            simp only [TE, sxs, sx, ldI, ldA, stI, stA, inc, gtF, ptF, ldX, stX, ldR, ldL, stL, dp1, dp2, Tm, kS0, kS1, kS2, kS3, kS4, kS5, kS6, kS7, kS8, kS9, kS10, kS11, kS12, kS13, kS14, kS15, kS16, kS17, kS18, kS19, kS20, kS21, kS22, kS23, kS24, kS25, kS26, kS27, kS28, kS30, kS31, kS32, kS33, kS34, kS35, kS36, kS37, kS38, kS39, kS40, kS41, kS42, kS43, kS51, kS52, kS53, List.getElem?_cons_zero, List.getElem?_cons_succ, List.set_cons_zero, List.set_cons_succ, List.length_cons, List.length_nil, List.drop_succ_cons, List.drop_zero, List.cons_append, List.nil_append, Option.toList_some, Option.toList_none, cz, ci2, true_and, and_true, and_self, true_or, or_true, nI_1, Nat.reduceAdd, Nat.reduceLT]
            refine ⟨fun _ => ?_, fun w => absurd trivial w⟩
            refine ev_seg rfl ?_
            simp only [TE, sxs, sx, ldI, ldA, stI, stA, inc, gtF, ptF, ldX, stX, ldR, ldL, stL, dp1, dp2, Tm, kS0, kS1, kS2, kS3, kS4, kS5, kS6, kS7, kS8, kS9, kS10, kS11, kS12, kS13, kS14, kS15, kS16, kS17, kS18, kS19, kS20, kS21, kS22, kS23, kS24, kS25, kS26, kS27, kS28, kS30, kS31, kS32, kS33, kS34, kS35, kS36, kS37, kS38, kS39, kS40, kS41, kS42, kS43, kS51, kS52, kS53, List.getElem?_cons_zero, List.getElem?_cons_succ, List.set_cons_zero, List.set_cons_succ, List.length_cons, List.length_nil, List.drop_succ_cons, List.drop_zero, List.cons_append, List.nil_append, Option.toList_some, Option.toList_none, cz, ci2, true_and, and_true, and_self, true_or, or_true, nI_1, Nat.reduceAdd, Nat.reduceLT]
            refine ev_seg rfl ?_
            simp only [TE, sxs, sx, ldI, ldA, stI, stA, inc, gtF, ptF, ldX, stX, ldR, ldL, stL, dp1, dp2, Tm, kS0, kS1, kS2, kS3, kS4, kS5, kS6, kS7, kS8, kS9, kS10, kS11, kS12, kS13, kS14, kS15, kS16, kS17, kS18, kS19, kS20, kS21, kS22, kS23, kS24, kS25, kS26, kS27, kS28, kS30, kS31, kS32, kS33, kS34, kS35, kS36, kS37, kS38, kS39, kS40, kS41, kS42, kS43, kS51, kS52, kS53, List.getElem?_cons_zero, List.getElem?_cons_succ, List.set_cons_zero, List.set_cons_succ, List.length_cons, List.length_nil, List.drop_succ_cons, List.drop_zero, List.cons_append, List.nil_append, Option.toList_some, Option.toList_none, cz, ci2, true_and, and_true, and_self, true_or, or_true, nI_1, Nat.reduceAdd, Nat.reduceLT]
            exact iho
          · have e1 : ct (fun o => decide (scM X b k o = -1)) (o + 1) = ct (fun o => decide (scM X b k o = -1)) o := by
              rw [ct, if_neg (by rw [decide_eq_true_eq]; exact hr), Nat.add_zero]
            rw [e1] at iho
            rw [bI_t (p := ¬ scM X b k o = -1) hr]
            refine ev_seg rfl ?_
            simp only [TE, sxs, sx, ldI, ldA, stI, stA, inc, gtF, ptF, ldX, stX, ldR, ldL, stL, dp1, dp2, Tm, kS0, kS1, kS2, kS3, kS4, kS5, kS6, kS7, kS8, kS9, kS10, kS11, kS12, kS13, kS14, kS15, kS16, kS17, kS18, kS19, kS20, kS21, kS22, kS23, kS24, kS25, kS26, kS27, kS28, kS30, kS31, kS32, kS33, kS34, kS35, kS36, kS37, kS38, kS39, kS40, kS41, kS42, kS43, kS51, kS52, kS53, List.getElem?_cons_zero, List.getElem?_cons_succ, List.set_cons_zero, List.set_cons_succ, List.length_cons, List.length_nil, List.drop_succ_cons, List.drop_zero, List.cons_append, List.nil_append, Option.toList_some, Option.toList_none, cz, ci2, true_and, and_true, and_self, true_or, or_true, nI_1, Nat.reduceAdd, Nat.reduceLT]
            refine ⟨fun w => absurd w (by decide), fun _ => ?_⟩
            refine ev_seg rfl ?_
            simp only [TE, sxs, sx, ldI, ldA, stI, stA, inc, gtF, ptF, ldX, stX, ldR, ldL, stL, dp1, dp2, Tm, kS0, kS1, kS2, kS3, kS4, kS5, kS6, kS7, kS8, kS9, kS10, kS11, kS12, kS13, kS14, kS15, kS16, kS17, kS18, kS19, kS20, kS21, kS22, kS23, kS24, kS25, kS26, kS27, kS28, kS30, kS31, kS32, kS33, kS34, kS35, kS36, kS37, kS38, kS39, kS40, kS41, kS42, kS43, kS51, kS52, kS53, List.getElem?_cons_zero, List.getElem?_cons_succ, List.set_cons_zero, List.set_cons_succ, List.length_cons, List.length_nil, List.drop_succ_cons, List.drop_zero, List.cons_append, List.nil_append, Option.toList_some, Option.toList_none, cz, ci2, true_and, and_true, and_self, true_or, or_true, nI_1, Nat.reduceAdd, Nat.reduceLT]
            refine ev_seg rfl ?_
            simp only [TE, sxs, sx, ldI, ldA, stI, stA, inc, gtF, ptF, ldX, stX, ldR, ldL, stL, dp1, dp2, Tm, kS0, kS1, kS2, kS3, kS4, kS5, kS6, kS7, kS8, kS9, kS10, kS11, kS12, kS13, kS14, kS15, kS16, kS17, kS18, kS19, kS20, kS21, kS22, kS23, kS24, kS25, kS26, kS27, kS28, kS30, kS31, kS32, kS33, kS34, kS35, kS36, kS37, kS38, kS39, kS40, kS41, kS42, kS43, kS51, kS52, kS53, List.getElem?_cons_zero, List.getElem?_cons_succ, List.set_cons_zero, List.set_cons_succ, List.length_cons, List.length_nil, List.drop_succ_cons, List.drop_zero, List.cons_append, List.nil_append, Option.toList_some, Option.toList_none, cz, ci2, true_and, and_true, and_self, true_or, or_true, nI_1, Nat.reduceAdd, Nat.reduceLT, Int32.add_zero]
            exact iho
      have i0 := inner 0 (Nat.zero_le _)
      rw [show b + 0 = b from rfl, show ct (fun o => decide (scM X b k o = -1)) 0 = 0 from rfl, Nat.add_zero] at i0
      refine ev_seg rfl ?_
      simp only [TE, sxs, sx, ldI, ldA, stI, stA, inc, gtF, ptF, ldX, stX, ldR, ldL, stL, dp1, dp2, Tm, kS0, kS1, kS2, kS3, kS4, kS5, kS6, kS7, kS8, kS9, kS10, kS11, kS12, kS13, kS14, kS15, kS16, kS17, kS18, kS19, kS20, kS21, kS22, kS23, kS24, kS25, kS26, kS27, kS28, kS30, kS31, kS32, kS33, kS34, kS35, kS36, kS37, kS38, kS39, kS40, kS41, kS42, kS43, kS51, kS52, kS53, List.getElem?_cons_zero, List.getElem?_cons_succ, List.set_cons_zero, List.set_cons_succ, List.length_cons, List.length_nil, List.drop_succ_cons, List.drop_zero, List.cons_append, List.nil_append, Option.toList_some, Option.toList_none, cz, ci2, true_and, and_true, and_self, true_or, or_true, nI_1, Nat.reduceAdd, Nat.reduceLT, h5, h6, nI_ad]
      refine ⟨(by first | assumption | (and_intros <;> first | assumption | trivial | decide)), fun w => absurd w (nle (by omega) (by omega)), fun _ => ?_⟩
      refine ev_seg rfl ?_
      simp only [TE, sxs, sx, ldI, ldA, stI, stA, inc, gtF, ptF, ldX, stX, ldR, ldL, stL, dp1, dp2, Tm, kS0, kS1, kS2, kS3, kS4, kS5, kS6, kS7, kS8, kS9, kS10, kS11, kS12, kS13, kS14, kS15, kS16, kS17, kS18, kS19, kS20, kS21, kS22, kS23, kS24, kS25, kS26, kS27, kS28, kS30, kS31, kS32, kS33, kS34, kS35, kS36, kS37, kS38, kS39, kS40, kS41, kS42, kS43, kS51, kS52, kS53, List.getElem?_cons_zero, List.getElem?_cons_succ, List.set_cons_zero, List.set_cons_succ, List.length_cons, List.length_nil, List.drop_succ_cons, List.drop_zero, List.cons_append, List.nil_append, Option.toList_some, Option.toList_none, cz, ci2, true_and, and_true, and_self, true_or, or_true, nI_1, Nat.reduceAdd, Nat.reduceLT, h5]
      exact ⟨(by first | assumption | (and_intros <;> first | assumption | trivial | decide)), i0⟩
  rw [en99]
  refine ev_seg rfl ?_
  simp only [TE, sxs, sx, ldI, ldA, stI, stA, inc, gtF, ptF, ldX, stX, ldR, ldL, stL, dp1, dp2, Tm, kS0, kS1, kS2, kS3, kS4, kS5, kS6, kS7, kS8, kS9, kS10, kS11, kS12, kS13, kS14, kS15, kS16, kS17, kS18, kS19, kS20, kS21, kS22, kS23, kS24, kS25, kS26, kS27, kS28, kS30, kS31, kS32, kS33, kS34, kS35, kS36, kS37, kS38, kS39, kS40, kS41, kS42, kS43, kS51, kS52, kS53, List.getElem?_cons_zero, List.getElem?_cons_succ, List.set_cons_zero, List.set_cons_succ, List.length_cons, List.length_nil, List.drop_succ_cons, List.drop_zero, List.cons_append, List.nil_append, Option.toList_some, Option.toList_none, cz, ci2, true_and, and_true, and_self, true_or, or_true, nI_1, Nat.reduceAdd, Nat.reduceLT, h5]
  exact ⟨(by first | assumption | (and_intros <;> first | assumption | trivial | decide)), outer 0 (Nat.zero_le _) _⟩
theorem s_MwaysOf (h : MS X i b n) (hS : SY (scM X b) n) : Ev sc (d + 3) 134 0 (ent 134 [vR 30 0 0, vI (nI i)]) [] X (.inl (some (.inl (nI (3 ^ (lfA (scM X b) n).length))))) X 0 := by
  have hl := lfA_len (S := scM X b) h.1.2.2.1
  have loop : ∀ k, ∀ c, Ev sc (d + 3) 134 2 [vR 30 0 0, vI (nI i), vI (nI c), vI (nI k)] [] X (.inl (some (.inl (nI (c * 3 ^ k))))) X 0 ∨ 10 < k := by
    intro k
    induction k with
    | zero =>
      intro c
      refine Or.inl ?_
      rw [Nat.pow_zero, Nat.mul_one]
      refine ev_seg rfl ?_
      simp only [TE, sxs, sx, ldI, ldA, stI, stA, inc, gtF, ptF, ldX, stX, ldR, ldL, stL, dp1, dp2, Tm, kS0, kS1, kS2, kS3, kS4, kS5, kS6, kS7, kS8, kS9, kS10, kS11, kS12, kS13, kS14, kS15, kS16, kS17, kS18, kS19, kS20, kS21, kS22, kS23, kS24, kS25, kS26, kS27, kS28, kS30, kS31, kS32, kS33, kS34, kS35, kS36, kS37, kS38, kS39, kS40, kS41, kS42, kS43, kS51, kS52, kS53, List.getElem?_cons_zero, List.getElem?_cons_succ, List.set_cons_zero, List.set_cons_succ, List.length_cons, List.length_nil, List.drop_succ_cons, List.drop_zero, List.cons_append, List.nil_append, Option.toList_some, Option.toList_none, cz, ci2, true_and, and_true, and_self, true_or, or_true, nI_1, Nat.reduceAdd, Nat.reduceLT]
      refine ⟨fun _ => ?_, fun w => absurd (Int32.le_refl 0) w⟩
      refine ev_seg rfl ?_
      simp only [TE, sxs, sx, ldI, ldA, stI, stA, inc, gtF, ptF, ldX, stX, ldR, ldL, stL, dp1, dp2, Tm, kS0, kS1, kS2, kS3, kS4, kS5, kS6, kS7, kS8, kS9, kS10, kS11, kS12, kS13, kS14, kS15, kS16, kS17, kS18, kS19, kS20, kS21, kS22, kS23, kS24, kS25, kS26, kS27, kS28, kS30, kS31, kS32, kS33, kS34, kS35, kS36, kS37, kS38, kS39, kS40, kS41, kS42, kS43, kS51, kS52, kS53, List.getElem?_cons_zero, List.getElem?_cons_succ, List.set_cons_zero, List.set_cons_succ, List.length_cons, List.length_nil, List.drop_succ_cons, List.drop_zero, List.cons_append, List.nil_append, Option.toList_some, Option.toList_none, cz, ci2, true_and, and_true, and_self, true_or, or_true, nI_1, Nat.reduceAdd, Nat.reduceLT]
    | succ k ih =>
      intro c
      by_cases hk : 10 < k + 1
      · exact Or.inr hk
      · refine Or.inl ?_
        have i1 := (ih (c * 3)).resolve_right (by omega)
        rw [show c * 3 * 3 ^ k = c * 3 ^ (k + 1) by rw [Nat.pow_succ, Nat.mul_assoc, Nat.mul_comm 3]] at i1
        refine ev_seg rfl ?_
        simp only [TE, sxs, sx, ldI, ldA, stI, stA, inc, gtF, ptF, ldX, stX, ldR, ldL, stL, dp1, dp2, Tm, kS0, kS1, kS2, kS3, kS4, kS5, kS6, kS7, kS8, kS9, kS10, kS11, kS12, kS13, kS14, kS15, kS16, kS17, kS18, kS19, kS20, kS21, kS22, kS23, kS24, kS25, kS26, kS27, kS28, kS30, kS31, kS32, kS33, kS34, kS35, kS36, kS37, kS38, kS39, kS40, kS41, kS42, kS43, kS51, kS52, kS53, List.getElem?_cons_zero, List.getElem?_cons_succ, List.set_cons_zero, List.set_cons_succ, List.length_cons, List.length_nil, List.drop_succ_cons, List.drop_zero, List.cons_append, List.nil_append, Option.toList_some, Option.toList_none, cz, ci2, true_and, and_true, and_self, true_or, or_true, nI_1, Nat.reduceAdd, Nat.reduceLT]
        refine ⟨fun w => absurd w (nle (a := 0) (by omega) (by omega)), fun _ => ?_⟩
        refine ev_seg rfl ?_
        simp only [TE, sxs, sx, ldI, ldA, stI, stA, inc, gtF, ptF, ldX, stX, ldR, ldL, stL, dp1, dp2, Tm, kS0, kS1, kS2, kS3, kS4, kS5, kS6, kS7, kS8, kS9, kS10, kS11, kS12, kS13, kS14, kS15, kS16, kS17, kS18, kS19, kS20, kS21, kS22, kS23, kS24, kS25, kS26, kS27, kS28, kS30, kS31, kS32, kS33, kS34, kS35, kS36, kS37, kS38, kS39, kS40, kS41, kS42, kS43, kS51, kS52, kS53, List.getElem?_cons_zero, List.getElem?_cons_succ, List.set_cons_zero, List.set_cons_succ, List.length_cons, List.length_nil, List.drop_succ_cons, List.drop_zero, List.cons_append, List.nil_append, Option.toList_some, Option.toList_none, cz, ci2, true_and, and_true, and_self, true_or, or_true, nI_1, Nat.reduceAdd, Nat.reduceLT]
        rw [show nI c * 3 = nI (c * 3) from nI_ml c 3, show nI (k + 1) + (-1) = nI k from pk_m1 k]
        exact i1
  have := (loop (lfA (scM X b) n).length 1).resolve_right (by omega)
  rw [Nat.one_mul] at this
  rw [en134]
  refine ev_seg rfl ?_
  simp only [TE, sxs, sx, ldI, ldA, stI, stA, inc, gtF, ptF, ldX, stX, ldR, ldL, stL, dp1, dp2, Tm, kS0, kS1, kS2, kS3, kS4, kS5, kS6, kS7, kS8, kS9, kS10, kS11, kS12, kS13, kS14, kS15, kS16, kS17, kS18, kS19, kS20, kS21, kS22, kS23, kS24, kS25, kS26, kS27, kS28, kS30, kS31, kS32, kS33, kS34, kS35, kS36, kS37, kS38, kS39, kS40, kS41, kS42, kS43, kS51, kS52, kS53, List.getElem?_cons_zero, List.getElem?_cons_succ, List.set_cons_zero, List.set_cons_succ, List.length_cons, List.length_nil, List.drop_succ_cons, List.drop_zero, List.cons_append, List.nil_append, Option.toList_some, Option.toList_none, cz, ci2, true_and, and_true, and_self, true_or, or_true, nI_1, Nat.reduceAdd, Nat.reduceLT]
  refine cv2 rfl rfl (by first | exact rfl | exact trivial) (s_Mleft h hS) ?_
  refine ev_seg rfl ?_
  simp only [TE, sxs, sx, ldI, ldA, stI, stA, inc, gtF, ptF, ldX, stX, ldR, ldL, stL, dp1, dp2, Tm, kS0, kS1, kS2, kS3, kS4, kS5, kS6, kS7, kS8, kS9, kS10, kS11, kS12, kS13, kS14, kS15, kS16, kS17, kS18, kS19, kS20, kS21, kS22, kS23, kS24, kS25, kS26, kS27, kS28, kS30, kS31, kS32, kS33, kS34, kS35, kS36, kS37, kS38, kS39, kS40, kS41, kS42, kS43, kS51, kS52, kS53, List.getElem?_cons_zero, List.getElem?_cons_succ, List.set_cons_zero, List.set_cons_succ, List.length_cons, List.length_nil, List.drop_succ_cons, List.drop_zero, List.cons_append, List.nil_append, Option.toList_some, Option.toList_none, cz, ci2, true_and, and_true, and_self, true_or, or_true, nI_1, Nat.reduceAdd, Nat.reduceLT]
  exact this
end Mwy
