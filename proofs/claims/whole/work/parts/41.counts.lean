/-! the reference: counting ways -/
section Mct
variable {sc : SC} {d : Nat} {X : XT} {i b n : Nat}
theorem fp_bd {B : Int} : ∀ (L : List (Nat × Nat)) (γ : Nat → Int) (w : Nat), (∀ p, p ∈ L → p.1 ≠ p.2) → bd n (B - 3 * L.length) γ → bd n B (fp γ L w)
  | [], γ, w, _, h => fun k hk => by
    have := h k hk
    simp at this
    rw [fp]
    omega
  | p :: L, γ, w, hp, h => by
    rw [fp]
    refine fp_bd L _ _ (fun q hq => hp q (List.mem_cons_of_mem _ hq)) (fun k hk => ?_)
    have h1 := gpl_bd (hp p (List.mem_cons_self ..)) (o := w % 3) γ k
    have h2 := h k hk
    rw [List.length_cons] at h2
    omega
theorem PZM_bd (hV : MV X b n) (h5 : n ≤ 5) : bd n 200 (PZM X b n) := fun k hk => by
  obtain ⟨⟨x, x1, x2⟩, -, -⟩ := rs_bd hV.1 hV.2.1 h5 hk (fun _ => true)
  obtain ⟨v, v1, v2⟩ := hV.2.2.1 k hk
  have e : PM X b n k = zI (x - v) := by
    unfold PM
    rw [x1, v2, zI_n, ← Int32.ofInt_sub]
  unfold PZM
  rw [e, Int32.toInt_ofInt_of_le (by omega) (by omega)]
  omega
/-- how many others are not behind -/
def bfr (n a mg : Nat) (γ : Nat → Int) : Nat := ct (fun s => decide (s ≠ a) && decide (γ a + mg ≤ γ s)) n
theorem s_Mbefore (h : MS X i b n) {γ : Nat → Int} (hW : WP X n γ) (hb : bd n 10000 γ) {a ls mg : Nat} (ha : a < n) (hl : ls + mg = 1) : Ev sc d 136 0 (ent 136 [vR 30 0 0, vI (nI (b + a)), vI (nI ls)]) [] X (.inl (some (.inl (nI (bfr n a mg γ))))) X 0 := by
  obtain ⟨⟨h1, h2, h3, h4⟩, h5, h6, h7⟩ := h
  have vi : vp_in (nI i) 6 := vpn (by omega) (by decide)
  have vt : vp_in (nI (b + a)) 30 := vpn (by omega) (by decide)
  have va : vp_in (nI a) 5 := vpn (by omega) (by decide)
  have g1 := hb a ha
  have ev : zI (γ a) - nI ls = zI (γ a - ls) := by rw [zI_n, ← Int32.ofInt_sub]
  have loop : ∀ p, p ≤ n → Ev sc d 136 1 [vR 30 0 0, vI (nI (b + a)), vI (nI ls), vI (nI i), vI (nI (ct (fun s => decide (s ≠ a) && decide (γ a + mg ≤ γ s)) p)), vI (nI p)] [] X (.inl (some (.inl (nI (bfr n a mg γ))))) X 0 := by
    apply loop_up
    · refine ev_seg rfl ?_
      simp only [TE, sxs, sx, ldI, ldA, stI, stA, inc, gtF, ptF, ldX, stX, ldR, ldL, stL, dp1, dp2, Tm, kS0, kS1, kS2, kS3, kS4, kS5, kS6, kS7, kS8, kS9, kS10, kS11, kS12, kS13, kS14, kS15, kS16, kS17, kS18, kS19, kS20, kS21, kS22, kS23, kS24, kS25, kS26, kS27, kS28, kS30, kS31, kS32, kS33, kS34, kS35, kS36, kS37, kS38, kS39, kS40, kS41, kS42, kS43, kS51, kS52, kS53, List.getElem?_cons_zero, List.getElem?_cons_succ, List.set_cons_zero, List.set_cons_succ, List.length_cons, List.length_nil, List.drop_succ_cons, List.drop_zero, List.cons_append, List.nil_append, Option.toList_some, Option.toList_none, cz, ci2, true_and, and_true, and_self, true_or, or_true, nI_1, Nat.reduceAdd, Nat.reduceLT, h6]
      refine ⟨(by first | assumption | (and_intros <;> first | assumption | trivial | decide)), fun _ => ?_, fun w => absurd (nleI (Nat.le_refl _) (by omega)) w⟩
      refine ev_seg rfl ?_
      simp only [TE, sxs, sx, ldI, ldA, stI, stA, inc, gtF, ptF, ldX, stX, ldR, ldL, stL, dp1, dp2, Tm, kS0, kS1, kS2, kS3, kS4, kS5, kS6, kS7, kS8, kS9, kS10, kS11, kS12, kS13, kS14, kS15, kS16, kS17, kS18, kS19, kS20, kS21, kS22, kS23, kS24, kS25, kS26, kS27, kS28, kS30, kS31, kS32, kS33, kS34, kS35, kS36, kS37, kS38, kS39, kS40, kS41, kS42, kS43, kS51, kS52, kS53, List.getElem?_cons_zero, List.getElem?_cons_succ, List.set_cons_zero, List.set_cons_succ, List.length_cons, List.length_nil, List.drop_succ_cons, List.drop_zero, List.cons_append, List.nil_append, Option.toList_some, Option.toList_none, cz, ci2, true_and, and_true, and_self, true_or, or_true, nI_1, Nat.reduceAdd, Nat.reduceLT]
      rfl
    · intro p hp ih
      have vp : vp_in (nI p) 5 := vpn (by omega) (by decide)
      have g2 := hb p hp
      have no : ¬ (p ≠ a ∧ γ a + mg ≤ γ p) → Ev sc d 136 5 [vR 30 0 0, vI (nI (b + a)), vI (nI ls), vI (nI i), vI (nI (ct (fun s => decide (s ≠ a) && decide (γ a + mg ≤ γ s)) p)), vI (nI p)] [vI (nI (ct (fun s => decide (s ≠ a) && decide (γ a + mg ≤ γ s)) p))] X (.inl (some (.inl (nI (bfr n a mg γ))))) X 0 := by
        intro hno
        rw [ct, if_neg (by rw [Bool.and_eq_true, decide_eq_true_eq, decide_eq_true_eq]; exact hno), Nat.add_zero] at ih
        refine ev_seg rfl ?_
        simp only [TE, sxs, sx, ldI, ldA, stI, stA, inc, gtF, ptF, ldX, stX, ldR, ldL, stL, dp1, dp2, Tm, kS0, kS1, kS2, kS3, kS4, kS5, kS6, kS7, kS8, kS9, kS10, kS11, kS12, kS13, kS14, kS15, kS16, kS17, kS18, kS19, kS20, kS21, kS22, kS23, kS24, kS25, kS26, kS27, kS28, kS30, kS31, kS32, kS33, kS34, kS35, kS36, kS37, kS38, kS39, kS40, kS41, kS42, kS43, kS51, kS52, kS53, List.getElem?_cons_zero, List.getElem?_cons_succ, List.set_cons_zero, List.set_cons_succ, List.length_cons, List.length_nil, List.drop_succ_cons, List.drop_zero, List.cons_append, List.nil_append, Option.toList_some, Option.toList_none, cz, ci2, true_and, and_true, and_self, true_or, or_true, nI_1, Nat.reduceAdd, Nat.reduceLT]
        refine ev_seg rfl ?_
        simp only [TE, sxs, sx, ldI, ldA, stI, stA, inc, gtF, ptF, ldX, stX, ldR, ldL, stL, dp1, dp2, Tm, kS0, kS1, kS2, kS3, kS4, kS5, kS6, kS7, kS8, kS9, kS10, kS11, kS12, kS13, kS14, kS15, kS16, kS17, kS18, kS19, kS20, kS21, kS22, kS23, kS24, kS25, kS26, kS27, kS28, kS30, kS31, kS32, kS33, kS34, kS35, kS36, kS37, kS38, kS39, kS40, kS41, kS42, kS43, kS51, kS52, kS53, List.getElem?_cons_zero, List.getElem?_cons_succ, List.set_cons_zero, List.set_cons_succ, List.length_cons, List.length_nil, List.drop_succ_cons, List.drop_zero, List.cons_append, List.nil_append, Option.toList_some, Option.toList_none, cz, ci2, true_and, and_true, and_self, true_or, or_true, nI_1, Nat.reduceAdd, Nat.reduceLT, Int32.add_zero]
        exact ih
      refine ev_seg rfl ?_
      simp only [TE, sxs, sx, ldI, ldA, stI, stA, inc, gtF, ptF, ldX, stX, ldR, ldL, stL, dp1, dp2, Tm, kS0, kS1, kS2, kS3, kS4, kS5, kS6, kS7, kS8, kS9, kS10, kS11, kS12, kS13, kS14, kS15, kS16, kS17, kS18, kS19, kS20, kS21, kS22, kS23, kS24, kS25, kS26, kS27, kS28, kS30, kS31, kS32, kS33, kS34, kS35, kS36, kS37, kS38, kS39, kS40, kS41, kS42, kS43, kS51, kS52, kS53, List.getElem?_cons_zero, List.getElem?_cons_succ, List.set_cons_zero, List.set_cons_succ, List.length_cons, List.length_nil, List.drop_succ_cons, List.drop_zero, List.cons_append, List.nil_append, Option.toList_some, Option.toList_none, cz, ci2, true_and, and_true, and_self, true_or, or_true, nI_1, Nat.reduceAdd, Nat.reduceLT, h6]
      refine ⟨(by first | assumption | (and_intros <;> first | assumption | trivial | decide)), fun w => absurd w (nle hp (by omega)), fun _ => ?_⟩
      refine ev_seg rfl ?_
      simp only [TE, sxs, sx, ldI, ldA, stI, stA, inc, gtF, ptF, ldX, stX, ldR, ldL, stL, dp1, dp2, Tm, kS0, kS1, kS2, kS3, kS4, kS5, kS6, kS7, kS8, kS9, kS10, kS11, kS12, kS13, kS14, kS15, kS16, kS17, kS18, kS19, kS20, kS21, kS22, kS23, kS24, kS25, kS26, kS27, kS28, kS30, kS31, kS32, kS33, kS34, kS35, kS36, kS37, kS38, kS39, kS40, kS41, kS42, kS43, kS51, kS52, kS53, List.getElem?_cons_zero, List.getElem?_cons_succ, List.set_cons_zero, List.set_cons_succ, List.length_cons, List.length_nil, List.drop_succ_cons, List.drop_zero, List.cons_append, List.nil_append, Option.toList_some, Option.toList_none, cz, ci2, true_and, and_true, and_self, true_or, or_true, nI_1, Nat.reduceAdd, Nat.reduceLT, h5, nI_sb]
      refine ⟨(by first | assumption | (and_intros <;> first | assumption | trivial | decide)), fun w => no (fun q => q.1 (nI_inj (by omega) (by omega) w)), fun w => ?_⟩
      have hne : p ≠ a := fun e => w (by rw [e])
      refine ev_seg rfl ?_
      simp only [TE, sxs, sx, ldI, ldA, stI, stA, inc, gtF, ptF, ldX, stX, ldR, ldL, stL, dp1, dp2, Tm, kS0, kS1, kS2, kS3, kS4, kS5, kS6, kS7, kS8, kS9, kS10, kS11, kS12, kS13, kS14, kS15, kS16, kS17, kS18, kS19, kS20, kS21, kS22, kS23, kS24, kS25, kS26, kS27, kS28, kS30, kS31, kS32, kS33, kS34, kS35, kS36, kS37, kS38, kS39, kS40, kS41, kS42, kS43, kS51, kS52, kS53, List.getElem?_cons_zero, List.getElem?_cons_succ, List.set_cons_zero, List.set_cons_succ, List.length_cons, List.length_nil, List.drop_succ_cons, List.drop_zero, List.cons_append, List.nil_append, Option.toList_some, Option.toList_none, cz, ci2, true_and, and_true, and_self, true_or, or_true, nI_1, Nat.reduceAdd, Nat.reduceLT, h5, nI_sb, hW p hp, hW a ha, ev]
      refine ⟨(by first | assumption | (and_intros <;> first | assumption | trivial | decide)), fun w2 => no (fun q => ?_), fun w2 => ?_⟩
      · rw [zI_le (by omega) (by omega) (by omega) (by omega)] at w2
        omega
      · rw [zI_le (by omega) (by omega) (by omega) (by omega)] at w2
        rw [ct, if_pos (by rw [Bool.and_eq_true, decide_eq_true_eq, decide_eq_true_eq]; exact ⟨hne, by omega⟩)] at ih
        refine ev_seg rfl ?_
        simp only [TE, sxs, sx, ldI, ldA, stI, stA, inc, gtF, ptF, ldX, stX, ldR, ldL, stL, dp1, dp2, Tm, kS0, kS1, kS2, kS3, kS4, kS5, kS6, kS7, kS8, kS9, kS10, kS11, kS12, kS13, kS14, kS15, kS16, kS17, kS18, kS19, kS20, kS21, kS22, kS23, kS24, kS25, kS26, kS27, kS28, kS30, kS31, kS32, kS33, kS34, kS35, kS36, kS37, kS38, kS39, kS40, kS41, kS42, kS43, kS51, kS52, kS53, List.getElem?_cons_zero, List.getElem?_cons_succ, List.set_cons_zero, List.set_cons_succ, List.length_cons, List.length_nil, List.drop_succ_cons, List.drop_zero, List.cons_append, List.nil_append, Option.toList_some, Option.toList_none, cz, ci2, true_and, and_true, and_self, true_or, or_true, nI_1, Nat.reduceAdd, Nat.reduceLT]
        refine ev_seg rfl ?_
        simp only [TE, sxs, sx, ldI, ldA, stI, stA, inc, gtF, ptF, ldX, stX, ldR, ldL, stL, dp1, dp2, Tm, kS0, kS1, kS2, kS3, kS4, kS5, kS6, kS7, kS8, kS9, kS10, kS11, kS12, kS13, kS14, kS15, kS16, kS17, kS18, kS19, kS20, kS21, kS22, kS23, kS24, kS25, kS26, kS27, kS28, kS30, kS31, kS32, kS33, kS34, kS35, kS36, kS37, kS38, kS39, kS40, kS41, kS42, kS43, kS51, kS52, kS53, List.getElem?_cons_zero, List.getElem?_cons_succ, List.set_cons_zero, List.set_cons_succ, List.length_cons, List.length_nil, List.drop_succ_cons, List.drop_zero, List.cons_append, List.nil_append, Option.toList_some, Option.toList_none, cz, ci2, true_and, and_true, and_self, true_or, or_true, nI_1, Nat.reduceAdd, Nat.reduceLT]
        exact ih
  rw [en136]
  refine ev_seg rfl ?_
  simp only [TE, sxs, sx, ldI, ldA, stI, stA, inc, gtF, ptF, ldX, stX, ldR, ldL, stL, dp1, dp2, Tm, kS0, kS1, kS2, kS3, kS4, kS5, kS6, kS7, kS8, kS9, kS10, kS11, kS12, kS13, kS14, kS15, kS16, kS17, kS18, kS19, kS20, kS21, kS22, kS23, kS24, kS25, kS26, kS27, kS28, kS30, kS31, kS32, kS33, kS34, kS35, kS36, kS37, kS38, kS39, kS40, kS41, kS42, kS43, kS51, kS52, kS53, List.getElem?_cons_zero, List.getElem?_cons_succ, List.set_cons_zero, List.set_cons_succ, List.length_cons, List.length_nil, List.drop_succ_cons, List.drop_zero, List.cons_append, List.nil_append, Option.toList_some, Option.toList_none, cz, ci2, true_and, and_true, and_self, true_or, or_true, nI_1, Nat.reduceAdd, Nat.reduceLT, h7 a ha]
  exact ⟨(by first | assumption | (and_intros <;> first | assumption | trivial | decide)), loop 0 (Nat.zero_le _)⟩
theorem bfr_le (n a mg : Nat) (γ : Nat → Int) : bfr n a mg γ ≤ n := ct_le _ _
theorem psd_bfr {a pl mg : Nat} {γ : Nat → Int} : psd n a pl mg γ = decide (pl ≤ bfr n a mg γ) := rfl
theorem nIle {a b : Nat} (h : a ≤ b) (hb : b < 2 ^ 31) : nI a ≤ nI b := by
  rw [zI_n, zI_n, zI_le (by omega) (by omega) (by omega) (by omega)]
  omega
theorem nIlt {a b : Nat} (h : a < b) (hb : b < 2 ^ 31) : ¬ nI b ≤ nI a := by
  rw [zI_n, zI_n, zI_le (by omega) (by omega) (by omega) (by omega)]
  omega
/-- laying a way and asking who is before -/
theorem s_Mway (h : MS X i b n) (hV : MV X b n) {w : Nat} (hw : w < 2 ^ 31) : ∃ X', Ev sc (d + 4) 135 0 (ent 135 [vR 30 0 0, vI (nI i), vI (nI w)]) [] X (.inl none) X' 0 ∧ Fr [42] X X' ∧ ∀ (sc' : SC) (d' a ls mg : Nat), a < n → ls + mg = 1 → Ev sc' d' 136 0 (ent 136 [vR 30 0 0, vI (nI (b + a)), vI (nI ls)]) [] X' (.inl (some (.inl (nI (bfr n a mg (fp (PZM X b n) (lfA (scM X b) n) w)))))) X' 0 := by
  obtain ⟨X', a1, a2, a3⟩ := s_Mplays (sc := sc) (d := d) h hV.1 hw
  have h5 := h.1.2.2.1
  have hl := lfA_len (S := scM X b) h5
  refine ⟨X', a1, a2, fun sc' d' a ls mg ha hlm => s_Mbefore (h.fr a2 (by decide) (by decide) (by decide)) a3 (fp_bd (B := 10000) _ _ _ (fun p hp => (lfA_ok hp).2.2) (fun k hk => ?_)) ha hlm⟩
  have := PZM_bd hV h5 k hk
  omega
/-- the ways that a test counts -/
def tstM (n a pl : Nat) (sf : Bool) (γ : Nat → Int) : Bool := if sf = true then !psd n a pl 0 γ else psd n a pl 1 γ
theorem s_Mcounts (h : MS X i b n) (hV : MV X b n) {a pl : Nat} (ha : a < n) (hp2 : pl ≤ 2) (hpl : X.1 30 0 0 2 = nI pl) (sf : Bool) : ∃ X', Ev sc (d + 5) 138 0 (ent 138 [vR 30 0 0, vI (nI (b + a)), vI (bI (sf = true))]) [] X (.inl (some (.inl (nI (ct (fun w => tstM n a pl sf (fp (PZM X b n) (lfA (scM X b) n) w)) (3 ^ (lfA (scM X b) n).length)))))) X' 0 ∧ Fr [42] X X' := by
  have h0 := h
  obtain ⟨⟨h1, h2, h3, h4⟩, h5, h6, h7⟩ := h
  have vi : vp_in (nI i) 6 := vpn (by omega) (by decide)
  have vt : vp_in (nI (b + a)) 30 := vpn (by omega) (by decide)
  have hl := lfA_len (S := scM X b) h3
  have hM := p3_le _ hl
  generalize hMM : 3 ^ (lfA (scM X b) n).length = M at hM
  generalize hT : (fun w => tstM n a pl sf (fp (PZM X b n) (lfA (scM X b) n) w)) = T
  have loop : ∀ p, p ≤ M → ∀ Y : XT, Fr [42] X Y → ∃ X', Ev sc (d + 5) 138 2 [vR 30 0 0, vI (nI (b + a)), vI (bI (sf = true)), vI (nI (ct T p)), vI (nI M), vI (nI p)] [] Y (.inl (some (.inl (nI (ct T M))))) X' 0 ∧ Fr [42] X X' := by
    apply loop_up
    · intro Y hf
      refine ⟨Y, ?_, hf⟩
      refine ev_seg rfl ?_
      simp only [TE, sxs, sx, ldI, ldA, stI, stA, inc, gtF, ptF, ldX, stX, ldR, ldL, stL, dp1, dp2, Tm, kS0, kS1, kS2, kS3, kS4, kS5, kS6, kS7, kS8, kS9, kS10, kS11, kS12, kS13, kS14, kS15, kS16, kS17, kS18, kS19, kS20, kS21, kS22, kS23, kS24, kS25, kS26, kS27, kS28, kS30, kS31, kS32, kS33, kS34, kS35, kS36, kS37, kS38, kS39, kS40, kS41, kS42, kS43, kS51, kS52, kS53, List.getElem?_cons_zero, List.getElem?_cons_succ, List.set_cons_zero, List.set_cons_succ, List.length_cons, List.length_nil, List.drop_succ_cons, List.drop_zero, List.cons_append, List.nil_append, Option.toList_some, Option.toList_none, cz, ci2, true_and, and_true, and_self, true_or, or_true, nI_1, Nat.reduceAdd, Nat.reduceLT]
      refine ⟨fun _ => ?_, fun w => absurd (nIle (Nat.le_refl _) (by omega)) w⟩
      refine ev_seg rfl ?_
      simp only [TE, sxs, sx, ldI, ldA, stI, stA, inc, gtF, ptF, ldX, stX, ldR, ldL, stL, dp1, dp2, Tm, kS0, kS1, kS2, kS3, kS4, kS5, kS6, kS7, kS8, kS9, kS10, kS11, kS12, kS13, kS14, kS15, kS16, kS17, kS18, kS19, kS20, kS21, kS22, kS23, kS24, kS25, kS26, kS27, kS28, kS30, kS31, kS32, kS33, kS34, kS35, kS36, kS37, kS38, kS39, kS40, kS41, kS42, kS43, kS51, kS52, kS53, List.getElem?_cons_zero, List.getElem?_cons_succ, List.set_cons_zero, List.set_cons_succ, List.length_cons, List.length_nil, List.drop_succ_cons, List.drop_zero, List.cons_append, List.nil_append, Option.toList_some, Option.toList_none, cz, ci2, true_and, and_true, and_self, true_or, or_true, nI_1, Nat.reduceAdd, Nat.reduceLT]
    · intro p hp ih Y hf
      have s1 := h0.fr hf (by decide) (by decide) (by decide)
      have V1 := hV.fr hf (by decide) (by decide) (by decide) (by decide)
      obtain ⟨Y2, a1, a2, a3⟩ := s_Mway (sc := sc) (d := d) s1 V1 (w := p) (by omega)
      have f2 := hf.tr a2
      have ePZ : PZM Y b n = PZM X b n := by unfold PZM; rw [PM_fr hf (by decide) (by decide)]
      rw [ePZ, scM_fr hf (by decide)] at a3
      have rpl : Y2.1 30 0 0 2 = nI pl := by rw [f2.at 30 (by decide)]; exact hpl
      obtain ⟨X', c1, c2⟩ := ih Y2 f2
      refine ⟨X', ?_, c2⟩
      have hTp : T p = tstM n a pl sf (fp (PZM X b n) (lfA (scM X b) n) p) := by rw [← hT]
      have t12 : Ev sc (d + 5) 138 12 [vR 30 0 0, vI (nI (b + a)), vI (bI (sf = true)), vI (nI (ct T p)), vI (nI M), vI (nI p)] [vI (if T p = true then 1 else 0), vI (nI (ct T p))] Y2 (.inl (some (.inl (nI (ct T M))))) X' 0 := by
        by_cases ht : T p = true
        · rw [ct, if_pos ht] at c1
          rw [if_pos ht]
          refine ev_seg rfl ?_
          simp only [TE, sxs, sx, ldI, ldA, stI, stA, inc, gtF, ptF, ldX, stX, ldR, ldL, stL, dp1, dp2, Tm, kS0, kS1, kS2, kS3, kS4, kS5, kS6, kS7, kS8, kS9, kS10, kS11, kS12, kS13, kS14, kS15, kS16, kS17, kS18, kS19, kS20, kS21, kS22, kS23, kS24, kS25, kS26, kS27, kS28, kS30, kS31, kS32, kS33, kS34, kS35, kS36, kS37, kS38, kS39, kS40, kS41, kS42, kS43, kS51, kS52, kS53, List.getElem?_cons_zero, List.getElem?_cons_succ, List.set_cons_zero, List.set_cons_succ, List.length_cons, List.length_nil, List.drop_succ_cons, List.drop_zero, List.cons_append, List.nil_append, Option.toList_some, Option.toList_none, cz, ci2, true_and, and_true, and_self, true_or, or_true, nI_1, Nat.reduceAdd, Nat.reduceLT]
          exact c1
        · rw [ct, if_neg ht, Nat.add_zero] at c1
          rw [if_neg ht]
          refine ev_seg rfl ?_
          simp only [TE, sxs, sx, ldI, ldA, stI, stA, inc, gtF, ptF, ldX, stX, ldR, ldL, stL, dp1, dp2, Tm, kS0, kS1, kS2, kS3, kS4, kS5, kS6, kS7, kS8, kS9, kS10, kS11, kS12, kS13, kS14, kS15, kS16, kS17, kS18, kS19, kS20, kS21, kS22, kS23, kS24, kS25, kS26, kS27, kS28, kS30, kS31, kS32, kS33, kS34, kS35, kS36, kS37, kS38, kS39, kS40, kS41, kS42, kS43, kS51, kS52, kS53, List.getElem?_cons_zero, List.getElem?_cons_succ, List.set_cons_zero, List.set_cons_succ, List.length_cons, List.length_nil, List.drop_succ_cons, List.drop_zero, List.cons_append, List.nil_append, Option.toList_some, Option.toList_none, cz, ci2, true_and, and_true, and_self, true_or, or_true, nI_1, Nat.reduceAdd, Nat.reduceLT, Int32.add_zero]
          exact c1
      refine ev_seg rfl ?_
      simp only [TE, sxs, sx, ldI, ldA, stI, stA, inc, gtF, ptF, ldX, stX, ldR, ldL, stL, dp1, dp2, Tm, kS0, kS1, kS2, kS3, kS4, kS5, kS6, kS7, kS8, kS9, kS10, kS11, kS12, kS13, kS14, kS15, kS16, kS17, kS18, kS19, kS20, kS21, kS22, kS23, kS24, kS25, kS26, kS27, kS28, kS30, kS31, kS32, kS33, kS34, kS35, kS36, kS37, kS38, kS39, kS40, kS41, kS42, kS43, kS51, kS52, kS53, List.getElem?_cons_zero, List.getElem?_cons_succ, List.set_cons_zero, List.set_cons_succ, List.length_cons, List.length_nil, List.drop_succ_cons, List.drop_zero, List.cons_append, List.nil_append, Option.toList_some, Option.toList_none, cz, ci2, true_and, and_true, and_self, true_or, or_true, nI_1, Nat.reduceAdd, Nat.reduceLT]
      refine ⟨fun w => absurd w (nIlt hp (by omega)), fun _ => ?_⟩
      refine ev_seg rfl ?_
      simp only [TE, sxs, sx, ldI, ldA, stI, stA, inc, gtF, ptF, ldX, stX, ldR, ldL, stL, dp1, dp2, Tm, kS0, kS1, kS2, kS3, kS4, kS5, kS6, kS7, kS8, kS9, kS10, kS11, kS12, kS13, kS14, kS15, kS16, kS17, kS18, kS19, kS20, kS21, kS22, kS23, kS24, kS25, kS26, kS27, kS28, kS30, kS31, kS32, kS33, kS34, kS35, kS36, kS37, kS38, kS39, kS40, kS41, kS42, kS43, kS51, kS52, kS53, List.getElem?_cons_zero, List.getElem?_cons_succ, List.set_cons_zero, List.set_cons_succ, List.length_cons, List.length_nil, List.drop_succ_cons, List.drop_zero, List.cons_append, List.nil_append, Option.toList_some, Option.toList_none, cz, ci2, true_and, and_true, and_self, true_or, or_true, nI_1, Nat.reduceAdd, Nat.reduceLT, s1.2.2.2 a ha]
      refine ⟨(by first | assumption | (and_intros <;> first | assumption | trivial | decide)), cu3 rfl rfl (by first | exact rfl | exact trivial) (a1) ?_⟩
      have hbl := bfr_le n a
      cases sf with
      | true =>
        have hTe : T p = !decide (pl ≤ bfr n a 0 (fp (PZM X b n) (lfA (scM X b) n) p)) := hTp
        rw [bI_t (p := true = true) rfl] at t12 ⊢
        refine ev_seg rfl ?_
        simp only [TE, sxs, sx, ldI, ldA, stI, stA, inc, gtF, ptF, ldX, stX, ldR, ldL, stL, dp1, dp2, Tm, kS0, kS1, kS2, kS3, kS4, kS5, kS6, kS7, kS8, kS9, kS10, kS11, kS12, kS13, kS14, kS15, kS16, kS17, kS18, kS19, kS20, kS21, kS22, kS23, kS24, kS25, kS26, kS27, kS28, kS30, kS31, kS32, kS33, kS34, kS35, kS36, kS37, kS38, kS39, kS40, kS41, kS42, kS43, kS51, kS52, kS53, List.getElem?_cons_zero, List.getElem?_cons_succ, List.set_cons_zero, List.set_cons_succ, List.length_cons, List.length_nil, List.drop_succ_cons, List.drop_zero, List.cons_append, List.nil_append, Option.toList_some, Option.toList_none, cz, ci2, true_and, and_true, and_self, true_or, or_true, nI_1, Nat.reduceAdd, Nat.reduceLT]
        refine ⟨fun w => absurd w (by decide), fun _ => ?_⟩
        refine ev_seg rfl ?_
        simp only [TE, sxs, sx, ldI, ldA, stI, stA, inc, gtF, ptF, ldX, stX, ldR, ldL, stL, dp1, dp2, Tm, kS0, kS1, kS2, kS3, kS4, kS5, kS6, kS7, kS8, kS9, kS10, kS11, kS12, kS13, kS14, kS15, kS16, kS17, kS18, kS19, kS20, kS21, kS22, kS23, kS24, kS25, kS26, kS27, kS28, kS30, kS31, kS32, kS33, kS34, kS35, kS36, kS37, kS38, kS39, kS40, kS41, kS42, kS43, kS51, kS52, kS53, List.getElem?_cons_zero, List.getElem?_cons_succ, List.set_cons_zero, List.set_cons_succ, List.length_cons, List.length_nil, List.drop_succ_cons, List.drop_zero, List.cons_append, List.nil_append, Option.toList_some, Option.toList_none, cz, ci2, true_and, and_true, and_self, true_or, or_true, nI_1, Nat.reduceAdd, Nat.reduceLT]
        refine cv3 rfl rfl (by first | exact rfl | exact trivial) (a3 _ _ a 1 0 ha rfl) ?_
        refine ev_seg rfl ?_
        simp only [TE, sxs, sx, ldI, ldA, stI, stA, inc, gtF, ptF, ldX, stX, ldR, ldL, stL, dp1, dp2, Tm, kS0, kS1, kS2, kS3, kS4, kS5, kS6, kS7, kS8, kS9, kS10, kS11, kS12, kS13, kS14, kS15, kS16, kS17, kS18, kS19, kS20, kS21, kS22, kS23, kS24, kS25, kS26, kS27, kS28, kS30, kS31, kS32, kS33, kS34, kS35, kS36, kS37, kS38, kS39, kS40, kS41, kS42, kS43, kS51, kS52, kS53, List.getElem?_cons_zero, List.getElem?_cons_succ, List.set_cons_zero, List.set_cons_succ, List.length_cons, List.length_nil, List.drop_succ_cons, List.drop_zero, List.cons_append, List.nil_append, Option.toList_some, Option.toList_none, cz, ci2, true_and, and_true, and_self, true_or, or_true, nI_1, Nat.reduceAdd, Nat.reduceLT, rpl]
        have := hbl 0 (fp (PZM X b n) (lfA (scM X b) n) p)
        by_cases hc : pl ≤ bfr n a 0 (fp (PZM X b n) (lfA (scM X b) n) p)
        · rw [hTe, decide_eq_true hc] at t12
          refine ⟨fun _ => ?_, fun w => absurd (nleI hc (by omega)) w⟩
          refine ev_seg rfl ?_
          simp only [TE, sxs, sx, ldI, ldA, stI, stA, inc, gtF, ptF, ldX, stX, ldR, ldL, stL, dp1, dp2, Tm, kS0, kS1, kS2, kS3, kS4, kS5, kS6, kS7, kS8, kS9, kS10, kS11, kS12, kS13, kS14, kS15, kS16, kS17, kS18, kS19, kS20, kS21, kS22, kS23, kS24, kS25, kS26, kS27, kS28, kS30, kS31, kS32, kS33, kS34, kS35, kS36, kS37, kS38, kS39, kS40, kS41, kS42, kS43, kS51, kS52, kS53, List.getElem?_cons_zero, List.getElem?_cons_succ, List.set_cons_zero, List.set_cons_succ, List.length_cons, List.length_nil, List.drop_succ_cons, List.drop_zero, List.cons_append, List.nil_append, Option.toList_some, Option.toList_none, cz, ci2, true_and, and_true, and_self, true_or, or_true, nI_1, Nat.reduceAdd, Nat.reduceLT]
          exact t12
        · rw [hTe, decide_eq_false hc] at t12
          refine ⟨fun w => absurd w (nle (by omega) (by omega)), fun _ => ?_⟩
          refine ev_seg rfl ?_
          simp only [TE, sxs, sx, ldI, ldA, stI, stA, inc, gtF, ptF, ldX, stX, ldR, ldL, stL, dp1, dp2, Tm, kS0, kS1, kS2, kS3, kS4, kS5, kS6, kS7, kS8, kS9, kS10, kS11, kS12, kS13, kS14, kS15, kS16, kS17, kS18, kS19, kS20, kS21, kS22, kS23, kS24, kS25, kS26, kS27, kS28, kS30, kS31, kS32, kS33, kS34, kS35, kS36, kS37, kS38, kS39, kS40, kS41, kS42, kS43, kS51, kS52, kS53, List.getElem?_cons_zero, List.getElem?_cons_succ, List.set_cons_zero, List.set_cons_succ, List.length_cons, List.length_nil, List.drop_succ_cons, List.drop_zero, List.cons_append, List.nil_append, Option.toList_some, Option.toList_none, cz, ci2, true_and, and_true, and_self, true_or, or_true, nI_1, Nat.reduceAdd, Nat.reduceLT]
          refine ev_seg rfl ?_
          simp only [TE, sxs, sx, ldI, ldA, stI, stA, inc, gtF, ptF, ldX, stX, ldR, ldL, stL, dp1, dp2, Tm, kS0, kS1, kS2, kS3, kS4, kS5, kS6, kS7, kS8, kS9, kS10, kS11, kS12, kS13, kS14, kS15, kS16, kS17, kS18, kS19, kS20, kS21, kS22, kS23, kS24, kS25, kS26, kS27, kS28, kS30, kS31, kS32, kS33, kS34, kS35, kS36, kS37, kS38, kS39, kS40, kS41, kS42, kS43, kS51, kS52, kS53, List.getElem?_cons_zero, List.getElem?_cons_succ, List.set_cons_zero, List.set_cons_succ, List.length_cons, List.length_nil, List.drop_succ_cons, List.drop_zero, List.cons_append, List.nil_append, Option.toList_some, Option.toList_none, cz, ci2, true_and, and_true, and_self, true_or, or_true, nI_1, Nat.reduceAdd, Nat.reduceLT]
          exact t12
      | false =>
        have hTe : T p = decide (pl ≤ bfr n a 1 (fp (PZM X b n) (lfA (scM X b) n) p)) := hTp
        rw [bI_f (p := false = true) (by decide)] at t12 ⊢
        refine ev_seg rfl ?_
        simp only [TE, sxs, sx, ldI, ldA, stI, stA, inc, gtF, ptF, ldX, stX, ldR, ldL, stL, dp1, dp2, Tm, kS0, kS1, kS2, kS3, kS4, kS5, kS6, kS7, kS8, kS9, kS10, kS11, kS12, kS13, kS14, kS15, kS16, kS17, kS18, kS19, kS20, kS21, kS22, kS23, kS24, kS25, kS26, kS27, kS28, kS30, kS31, kS32, kS33, kS34, kS35, kS36, kS37, kS38, kS39, kS40, kS41, kS42, kS43, kS51, kS52, kS53, List.getElem?_cons_zero, List.getElem?_cons_succ, List.set_cons_zero, List.set_cons_succ, List.length_cons, List.length_nil, List.drop_succ_cons, List.drop_zero, List.cons_append, List.nil_append, Option.toList_some, Option.toList_none, cz, ci2, true_and, and_true, and_self, true_or, or_true, nI_1, Nat.reduceAdd, Nat.reduceLT]
        refine ⟨fun _ => ?_, fun w => absurd trivial w⟩
        refine ev_seg rfl ?_
        simp only [TE, sxs, sx, ldI, ldA, stI, stA, inc, gtF, ptF, ldX, stX, ldR, ldL, stL, dp1, dp2, Tm, kS0, kS1, kS2, kS3, kS4, kS5, kS6, kS7, kS8, kS9, kS10, kS11, kS12, kS13, kS14, kS15, kS16, kS17, kS18, kS19, kS20, kS21, kS22, kS23, kS24, kS25, kS26, kS27, kS28, kS30, kS31, kS32, kS33, kS34, kS35, kS36, kS37, kS38, kS39, kS40, kS41, kS42, kS43, kS51, kS52, kS53, List.getElem?_cons_zero, List.getElem?_cons_succ, List.set_cons_zero, List.set_cons_succ, List.length_cons, List.length_nil, List.drop_succ_cons, List.drop_zero, List.cons_append, List.nil_append, Option.toList_some, Option.toList_none, cz, ci2, true_and, and_true, and_self, true_or, or_true, nI_1, Nat.reduceAdd, Nat.reduceLT]
        refine cv3 rfl rfl (by first | exact rfl | exact trivial) (a3 _ _ a 0 1 ha rfl) ?_
        refine ev_seg rfl ?_
        simp only [TE, sxs, sx, ldI, ldA, stI, stA, inc, gtF, ptF, ldX, stX, ldR, ldL, stL, dp1, dp2, Tm, kS0, kS1, kS2, kS3, kS4, kS5, kS6, kS7, kS8, kS9, kS10, kS11, kS12, kS13, kS14, kS15, kS16, kS17, kS18, kS19, kS20, kS21, kS22, kS23, kS24, kS25, kS26, kS27, kS28, kS30, kS31, kS32, kS33, kS34, kS35, kS36, kS37, kS38, kS39, kS40, kS41, kS42, kS43, kS51, kS52, kS53, List.getElem?_cons_zero, List.getElem?_cons_succ, List.set_cons_zero, List.set_cons_succ, List.length_cons, List.length_nil, List.drop_succ_cons, List.drop_zero, List.cons_append, List.nil_append, Option.toList_some, Option.toList_none, cz, ci2, true_and, and_true, and_self, true_or, or_true, nI_1, Nat.reduceAdd, Nat.reduceLT, rpl]
        have := hbl 1 (fp (PZM X b n) (lfA (scM X b) n) p)
        by_cases hc : pl ≤ bfr n a 1 (fp (PZM X b n) (lfA (scM X b) n) p)
        · rw [hTe, decide_eq_true hc] at t12
          refine ⟨fun w => absurd w (i_nlt (nleI hc (by omega))), fun _ => ?_⟩
          refine ev_seg rfl ?_
          simp only [TE, sxs, sx, ldI, ldA, stI, stA, inc, gtF, ptF, ldX, stX, ldR, ldL, stL, dp1, dp2, Tm, kS0, kS1, kS2, kS3, kS4, kS5, kS6, kS7, kS8, kS9, kS10, kS11, kS12, kS13, kS14, kS15, kS16, kS17, kS18, kS19, kS20, kS21, kS22, kS23, kS24, kS25, kS26, kS27, kS28, kS30, kS31, kS32, kS33, kS34, kS35, kS36, kS37, kS38, kS39, kS40, kS41, kS42, kS43, kS51, kS52, kS53, List.getElem?_cons_zero, List.getElem?_cons_succ, List.set_cons_zero, List.set_cons_succ, List.length_cons, List.length_nil, List.drop_succ_cons, List.drop_zero, List.cons_append, List.nil_append, Option.toList_some, Option.toList_none, cz, ci2, true_and, and_true, and_self, true_or, or_true, nI_1, Nat.reduceAdd, Nat.reduceLT]
          exact t12
        · rw [hTe, decide_eq_false hc] at t12
          refine ⟨fun _ => ?_, fun w => absurd (nI_lt (by omega) (by omega)) w⟩
          refine ev_seg rfl ?_
          simp only [TE, sxs, sx, ldI, ldA, stI, stA, inc, gtF, ptF, ldX, stX, ldR, ldL, stL, dp1, dp2, Tm, kS0, kS1, kS2, kS3, kS4, kS5, kS6, kS7, kS8, kS9, kS10, kS11, kS12, kS13, kS14, kS15, kS16, kS17, kS18, kS19, kS20, kS21, kS22, kS23, kS24, kS25, kS26, kS27, kS28, kS30, kS31, kS32, kS33, kS34, kS35, kS36, kS37, kS38, kS39, kS40, kS41, kS42, kS43, kS51, kS52, kS53, List.getElem?_cons_zero, List.getElem?_cons_succ, List.set_cons_zero, List.set_cons_succ, List.length_cons, List.length_nil, List.drop_succ_cons, List.drop_zero, List.cons_append, List.nil_append, Option.toList_some, Option.toList_none, cz, ci2, true_and, and_true, and_self, true_or, or_true, nI_1, Nat.reduceAdd, Nat.reduceLT]
          exact t12
  obtain ⟨X', c1, c2⟩ := loop 0 (Nat.zero_le _) X (Fr.rf _ _)
  refine ⟨X', ?_, c2⟩
  have hwo := s_MwaysOf (sc := sc) (d := d + 1) h0 hV.1
  rw [hMM] at hwo
  rw [en138]
  refine ev_seg rfl ?_
  simp only [TE, sxs, sx, ldI, ldA, stI, stA, inc, gtF, ptF, ldX, stX, ldR, ldL, stL, dp1, dp2, Tm, kS0, kS1, kS2, kS3, kS4, kS5, kS6, kS7, kS8, kS9, kS10, kS11, kS12, kS13, kS14, kS15, kS16, kS17, kS18, kS19, kS20, kS21, kS22, kS23, kS24, kS25, kS26, kS27, kS28, kS30, kS31, kS32, kS33, kS34, kS35, kS36, kS37, kS38, kS39, kS40, kS41, kS42, kS43, kS51, kS52, kS53, List.getElem?_cons_zero, List.getElem?_cons_succ, List.set_cons_zero, List.set_cons_succ, List.length_cons, List.length_nil, List.drop_succ_cons, List.drop_zero, List.cons_append, List.nil_append, Option.toList_some, Option.toList_none, cz, ci2, true_and, and_true, and_self, true_or, or_true, nI_1, Nat.reduceAdd, Nat.reduceLT, h7 a ha]
  refine ⟨(by first | assumption | (and_intros <;> first | assumption | trivial | decide)), cv2 rfl rfl (by first | exact rfl | exact trivial) (hwo) ?_⟩
  refine ev_seg rfl ?_
  simp only [TE, sxs, sx, ldI, ldA, stI, stA, inc, gtF, ptF, ldX, stX, ldR, ldL, stL, dp1, dp2, Tm, kS0, kS1, kS2, kS3, kS4, kS5, kS6, kS7, kS8, kS9, kS10, kS11, kS12, kS13, kS14, kS15, kS16, kS17, kS18, kS19, kS20, kS21, kS22, kS23, kS24, kS25, kS26, kS27, kS28, kS30, kS31, kS32, kS33, kS34, kS35, kS36, kS37, kS38, kS39, kS40, kS41, kS42, kS43, kS51, kS52, kS53, List.getElem?_cons_zero, List.getElem?_cons_succ, List.set_cons_zero, List.set_cons_succ, List.length_cons, List.length_nil, List.drop_succ_cons, List.drop_zero, List.cons_append, List.nil_append, Option.toList_some, Option.toList_none, cz, ci2, true_and, and_true, and_self, true_or, or_true, nI_1, Nat.reduceAdd, Nat.reduceLT]
  exact c1
theorem ct_not (f : Nat → Bool) : ∀ m, ct (fun w => !f w) m + ct f m = m
  | 0 => rfl
  | m + 1 => by
    have := ct_not f m
    rw [ct, ct]
    cases h : f m <;> simp [h] <;> omega
theorem fsW_at {f : Nat → Bool} {p : Nat} (h0 : fsW f p = none) (h1 : f p = true) : ∀ {m}, p < m → fsW f m = some p
  | m + 1, h => by
    rw [fsW]
    by_cases hm : p = m
    · rw [← hm, h0]
      simp [h1]
    · rw [fsW_at h0 h1 (m := m) (by omega)]
end Mct
