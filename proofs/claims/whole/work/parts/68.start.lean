/-! the start of the law -/
section Sta
theorem P_of {D : va_G} {cl : List vw_C} {ws ws' : va_W} {H : Heap} (h : va_P D cl ws H) {is : List Nat} (hs : is.map (fun i => ws[i]?) = ws'.map some) : va_P D cl ws' H := fun k q hq => by
  have h1 : (is.map (fun i => ws[i]?))[k]? = some (some q) := by rw [hs, List.getElem?_map, hq]; rfl
  rw [List.getElem?_map] at h1
  cases hi : is[k]? with
  | none => rw [hi] at h1; cases h1
  | some i =>
    rw [hi] at h1
    exact h i q (Option.some.inj h1)
theorem good_law {a : Jvm.Cond} (h : a ∈ lw_tbl) (hg : goodWord a = true) : GoodIn lw_tbl (a :: lwG) := fun w hw => by
  rcases List.mem_cons.mp hw with rfl | hw
  · exact ⟨h, good_of_word hg⟩
  · exact ⟨(List.mem_filter.mp hw).1, good_of_word (List.mem_filter.mp hw).2⟩
variable {s : State} {args : Array Value}
theorem kn_all (hts : ∀ w ∈ lw_tbl, w.before args s = true) : ∃ (dC : Nat → ClassId) (dI : Nat → Nat → Nat), ∀ (k : Nat) (q : vw_C), vwCl[k]? = some q → u_Kn s q.1 q.2.1 q.2.2 (dC k) (dI k) := by
  have H : ∀ k : Nat, ∃ (cC : ClassId) (iS : Nat → Nat), ∀ q : vw_C, vwCl[k]? = some q → u_Kn s q.1 q.2.1 q.2.2 cC iS := by
    intro k
    match k with
    | 0 =>
      obtain ⟨cC, iS, h⟩ := u_known (C := RX0) (T := TX0) (N := 6) (n := 6) hts inX0 (hts (.instantiable RX0 6) (by decide +kernel))
      exact ⟨cC, iS, fun q hq => by cases hq; exact h⟩
    | 1 =>
      obtain ⟨cC, iS, h⟩ := u_known (C := RX1) (T := TX1) (N := 2) (n := 2) hts inX1 (hts (.instantiable RX1 2) (by decide +kernel))
      exact ⟨cC, iS, fun q hq => by cases hq; exact h⟩
    | 2 =>
      obtain ⟨cC, iS, h⟩ := u_known (C := RX2) (T := TX2) (N := 1) (n := 1) hts inX2 (hts (.instantiable RX2 1) (by decide +kernel))
      exact ⟨cC, iS, fun q hq => by cases hq; exact h⟩
    | 3 =>
      obtain ⟨cC, iS, h⟩ := u_known (C := RX3) (T := TX3) (N := 7) (n := 7) hts inX3 (hts (.instantiable RX3 7) (by decide +kernel))
      exact ⟨cC, iS, fun q hq => by cases hq; exact h⟩
    | 4 =>
      obtain ⟨cC, iS, h⟩ := u_known (C := RX4) (T := TX4) (N := 1) (n := 1) hts inX4 (hts (.instantiable RX4 1) (by decide +kernel))
      exact ⟨cC, iS, fun q hq => by cases hq; exact h⟩
    | 5 =>
      obtain ⟨cC, iS, h⟩ := u_known (C := RX5) (T := TX5) (N := 3) (n := 3) hts inX5 (hts (.instantiable RX5 3) (by decide +kernel))
      exact ⟨cC, iS, fun q hq => by cases hq; exact h⟩
    | 6 =>
      obtain ⟨cC, iS, h⟩ := u_known (C := RX6) (T := TX6) (N := 1) (n := 1) hts inX6 (hts (.instantiable RX6 1) (by decide +kernel))
      exact ⟨cC, iS, fun q hq => by cases hq; exact h⟩
    | 7 =>
      obtain ⟨cC, iS, h⟩ := u_known (C := RX7) (T := TX7) (N := 9) (n := 9) hts inX7 (hts (.instantiable RX7 9) (by decide +kernel))
      exact ⟨cC, iS, fun q hq => by cases hq; exact h⟩
    | 8 =>
      obtain ⟨cC, iS, h⟩ := u_known (C := RX8) (T := TX8) (N := 17) (n := 17) hts inX8 (hts (.instantiable RX8 17) (by decide +kernel))
      exact ⟨cC, iS, fun q hq => by cases hq; exact h⟩
    | k + 9 => exact ⟨0, fun _ => 0, fun q hq => by simp at hq⟩
  obtain ⟨dC, h1⟩ := Classical.skolem.mp H
  obtain ⟨dI, h2⟩ := Classical.skolem.mp h1
  exact ⟨dC, dI, h2⟩
theorem tc_all (hts : ∀ w ∈ lw_tbl, w.before args s = true) : ∃ tc : Nat → ClassId, ∀ (k : Nat) (q : ClassId × FieldType), (tyW tc)[k]? = some q → ArrOfT s q.1 q.2 ∧ va_RA s q.1 q.2 := by
  obtain ⟨c0, k0, p0, a1, a2, a3⟩ := Cond.arrayClass_spec (hts (.arrayClass .int) (by decide +kernel))
  obtain ⟨p1, c1, k1, b1, b2, b3, b4⟩ := Cond.arrayOver_specA (t := .int) (hts (.arrayOver (.array .int)) (by decide +kernel))
  obtain ⟨p2, c2, k2, d1, d2, d3, d4, d5⟩ := Cond.arrayOver_spec (hts (.arrayOver (.object RX0)) (by decide +kernel))
  obtain ⟨c3, k3, p3, e1, e2, e3⟩ := Cond.arrayClass_spec (hts (.arrayClass .long) (by decide +kernel))
  refine ⟨fun k => if k = 0 then c0 else if k = 1 then c1 else if k = 2 then c2 else c3, fun k q hq => ?_⟩
  match k, hq with
  | 0, hq =>
    cases hq
    exact ⟨fun n z => ⟨(fun k h => by cases h), k0, a2, p0, a3⟩, a1⟩
  | 1, hq =>
    cases hq
    exact ⟨fun n z => ⟨(fun k h => by cases h), k1, b2, p1, b3⟩, b4⟩
  | 2, hq =>
    cases hq
    exact ⟨fun n z => ⟨(fun k h => by cases h), k2, d3, p2, d4⟩, k2, p2, d3, d4, d1, d5⟩
  | 3, hq =>
    cases hq
    exact ⟨fun n z => ⟨(fun k h => by cases h), k3, e2, p3, e3⟩, e1⟩
  | k + 4, hq => simp [tyW] at hq
theorem nestW : ∀ q ∈ nestQ, Cond.methodLinkNest q.1 q.2.1 q.2.2 RX7 ∈ lw_tbl := by decide +kernel
theorem NW_0 (hts : ∀ w ∈ lw_tbl, w.before args s = true) : NW s := ⟨hts (.arrayOver (.array .int)) (by decide +kernel), hts (.arrayOver (.object RX0)) (by decide +kernel), fun q hq => va_Nw.of rfl (hts _ (nestW q hq))⟩
/-! what is given of the statics, the texts, the exceptions -/
theorem stW : ∀ q ∈ STl, Cond.stringRef RX7 q.1 q.2 ∈ lw_tbl := by decide +kernel
theorem dcW : ∀ n ∈ exD, Cond.declares (Bundle.initS n) ∈ lw_tbl := by decide +kernel
theorem GL_0 {b L : Nat} {xz : Nat → Int32} (hts : ∀ w ∈ lw_tbl, w.before #[Value.ref b] s = true) (hX : va_X b L xz s s.heap) (hbl : b < s.heap.size) (hL : L ≤ 2560) (hgv : (Jvm.Cond.and given_1 narrow_1).before #[Value.ref b] s = true) : ∃ ro : Nat → Nat, ro 53 = b ∧ ∀ ad : ADR, (∀ k, 51 ≤ k → ad k 0 0 = ro k) → Gl (L, xz) ad (fun q => s.heap.size ≤ q) s s.heap := by
  have hg := flat_of_before _ hgv
  have hA : ∀ a : Nat, a < s.heap.size → ¬ s.heap.size ≤ a := fun a h => Nat.not_le.mpr h
  obtain ⟨t1, e1, T1⟩ := va_Tof (args := #[Value.ref b]) (s := s) (tm := .static "GroupTables$Outlook" "LOWER_GAINS" "[I") (ty := .int) (N := 3) (f := fun j => .int (roV (L, xz) 51 j)) (A := fun q => s.heap.size ≤ q) (by decide) (hg (.arrayOf (.static "GroupTables$Outlook" "LOWER_GAINS" "[I") .int) (by decide +kernel)) (va_eqt (z := 3) (hg (.eq (.length (.static "GroupTables$Outlook" "LOWER_GAINS" "[I")) (.int 3)) (by decide +kernel))) (fun j hj => by
    rcases (show j = 0 ∨ j = 1 ∨ j = 2 by omega) with rfl | rfl | rfl
    · exact va_eqt (z := 3) (hg (.eq (.elem (.static "GroupTables$Outlook" "LOWER_GAINS" "[I") (.int 0)) (.int 3)) (by decide +kernel))
    · exact va_eqt (z := 1) (hg (.eq (.elem (.static "GroupTables$Outlook" "LOWER_GAINS" "[I") (.int 1)) (.int 1)) (by decide +kernel))
    · exact va_eqt (z := 0) (hg (.eq (.elem (.static "GroupTables$Outlook" "LOWER_GAINS" "[I") (.int 2)) (.int 0)) (by decide +kernel))) hA
  obtain ⟨t2, e2, T2⟩ := va_Tof (args := #[Value.ref b]) (s := s) (tm := .static "GroupTables$Outlook" "UPPER_GAINS" "[I") (ty := .int) (N := 3) (f := fun j => .int (roV (L, xz) 52 j)) (A := fun q => s.heap.size ≤ q) (by decide) (hg (.arrayOf (.static "GroupTables$Outlook" "UPPER_GAINS" "[I") .int) (by decide +kernel)) (va_eqt (z := 3) (hg (.eq (.length (.static "GroupTables$Outlook" "UPPER_GAINS" "[I")) (.int 3)) (by decide +kernel))) (fun j hj => by
    rcases (show j = 0 ∨ j = 1 ∨ j = 2 by omega) with rfl | rfl | rfl
    · exact va_eqt (z := 0) (hg (.eq (.elem (.static "GroupTables$Outlook" "UPPER_GAINS" "[I") (.int 0)) (.int 0)) (by decide +kernel))
    · exact va_eqt (z := 1) (hg (.eq (.elem (.static "GroupTables$Outlook" "UPPER_GAINS" "[I") (.int 1)) (.int 1)) (by decide +kernel))
    · exact va_eqt (z := 3) (hg (.eq (.elem (.static "GroupTables$Outlook" "UPPER_GAINS" "[I") (.int 2)) (.int 3)) (by decide +kernel))) hA
  refine ⟨fun k => if k = 51 then t1 else if k = 52 then t2 else b, rfl, fun ad had => ?_⟩
  have a1 : ad 51 0 0 = t1 := had 51 (by decide)
  have a2 : ad 52 0 0 = t2 := had 52 (by decide)
  have a3 : ad 53 0 0 = b := had 53 (by decide)
  refine ⟨vx_Zqof (hts (.laysStatic Bundle.tN "UNASSIGNED_STACK" Bundle.steD) (by decide +kernel)) (hts (.initialized Bundle.tN) (by decide +kernel)) (hg (.isRef (.static Bundle.tN "UNASSIGNED_STACK" Bundle.steD)) (by decide +kernel)) hA, vx_Zqof (hts (.laysStatic Bundle.tN "SUPPRESSED_SENTINEL" Bundle.listD) (by decide +kernel)) (hts (.initialized Bundle.tN) (by decide +kernel)) (hg (.isRef (.static Bundle.tN "SUPPRESSED_SENTINEL" Bundle.listD)) (by decide +kernel)) hA, fun q hq => ?_, fun k h1 h2 => ?_, fun k h1 h2 => ?_, fun x y hx hy hne => ?_, va_Nw.of rfl (hts _ (by decide +kernel)), fun x hx => va_Nw.of rfl (hts _ (ctW x hx).2.1), fun n hn => va_Nw.of rfl (hts _ (dcW n hn))⟩
  · have h9 : ∀ q ∈ STl, Cond.exactly (.string RX7 q.1) "java/lang/String" ∈ flatC (Jvm.Cond.and given_1 narrow_1) := by decide +kernel
    obtain ⟨sa, -, -, -, h1, -⟩ := Cond.exactly_spec (hg _ (h9 q hq))
    exact ⟨sa, vk_R.of (hts _ (stW q hq)) h1⟩
  · rcases (show k = 51 ∨ k = 52 by omega) with rfl | rfl
    · rw [a1]
      exact va_Zof (args := #[Value.ref b]) (hts (.laysStatic "GroupTables$Outlook" "LOWER_GAINS" "[I") (by decide +kernel)) (hts (.initialized "GroupTables$Outlook") (by decide +kernel)) e1 hA
    · rw [a2]
      exact va_Zof (args := #[Value.ref b]) (hts (.laysStatic "GroupTables$Outlook" "UPPER_GAINS" "[I") (by decide +kernel)) (hts (.initialized "GroupTables$Outlook") (by decide +kernel)) e2 hA
  · rcases (show k = 51 ∨ k = 52 ∨ k = 53 by omega) with rfl | rfl | rfl
    · rw [a1]
      exact T1
    · rw [a2]
      exact T2
    · rw [a3]
      obtain ⟨scr, hcb, hof, hkn, hsz, hval⟩ := hX
      exact ⟨scr, hcb, hof, hkn, by rw [hsz]; exact Nat.le_refl _, by rw [hsz]; rfl, hval, Nat.not_le.mpr hbl⟩
  · have h9 : ∀ a, a < 3 → ∀ b, b < 3 → a ≠ b → Cond.not (.castable (exN a) (exN b)) ∈ flatC (Jvm.Cond.and given_1 narrow_1) := by decide +kernel
    exact va_Nc.of (hg _ (h9 x hx y hy hne))
end Sta

