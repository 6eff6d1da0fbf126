/-! runs, without the count of steps -/
def Ev (sc : SC) : GoT := fun d y i L S X o Z k => ∃ n, Go sc n d y i L S X o Z k
theorem Cl_mono {r1 r2 : GoT} (h : ∀ d y i L S X o Z k, r1 d y i L S X o Z k → r2 d y i L S X o Z k) {d y z nx : Nat} {L S : List AV} {X : XT} {o : OUT} {Z : XT} {k : Nat} (hT : Cl r1 d y z nx L S X o Z k) : Cl r2 d y z nx L S X o Z k := by
  obtain ⟨d', o1, X1, k1, h1, h2, h3, h4, h5, h6, h7⟩ := hT
  refine ⟨d', o1, X1, k1, h1, h2, h3, h4, h5, h _ _ _ _ _ _ _ _ _ h6, ?_⟩
  rcases o1 with v | x
  · rcases v with _ | v
    · obtain ⟨k2, h8, h9⟩ := h7
      exact ⟨k2, h _ _ _ _ _ _ _ _ _ h8, h9⟩
    · obtain ⟨k2, h8, h9⟩ := h7
      exact ⟨k2, h _ _ _ _ _ _ _ _ _ h8, h9⟩
  · rcases h7 with h7 | ⟨g, h8, h9, k2, h10, h11⟩
    · exact Or.inl h7
    · exact Or.inr ⟨g, h8, h9, k2, h _ _ _ _ _ _ _ _ _ h10, h11⟩
theorem Tm_mono {r1 r2 : GoT} (h : ∀ d y i L S X o Z k, r1 d y i L S X o Z k → r2 d y i L S X o Z k) {d y : Nat} {t : Instr × Nat × Nat × Nat} {L S : List AV} {X : XT} {o : OUT} {Z : XT} {k : Nat} (hT : Tm r1 d y t L S X o Z k) : Tm r2 d y t L S X o Z k := by
  obtain ⟨ins, ln, a, b⟩ := t
  cases ins
  case nop => exact h _ _ _ _ _ _ _ _ _ hT
  case goto off => exact h _ _ _ _ _ _ _ _ _ hT
  case ifCond q off =>
    rcases S with _ | ⟨x | x, S⟩
    · exact hT.elim
    · exact ⟨fun c => h _ _ _ _ _ _ _ _ _ (hT.1 c), fun c => h _ _ _ _ _ _ _ _ _ (hT.2 c)⟩
    · exact hT.elim
  case if_icmp q off =>
    rcases S with _ | ⟨w | w, _ | ⟨x | x, S⟩⟩
    · exact hT.elim
    · exact hT.elim
    · exact ⟨fun c => h _ _ _ _ _ _ _ _ _ (hT.1 c), fun c => h _ _ _ _ _ _ _ _ _ (hT.2 c)⟩
    · exact hT.elim
    · exact hT.elim
    · exact hT.elim
    · exact hT.elim
  case tableswitch df lo hi offs =>
    rcases S with _ | ⟨x | x, S⟩
    · exact hT.elim
    · exact ⟨hT.1, h _ _ _ _ _ _ _ _ _ hT.2⟩
    · exact hT.elim
  case invokevirtual ix => exact Cl_mono h hT
  case invokestatic ix => exact Cl_mono h hT
  all_goals exact hT
theorem Go_succ {sc : SC} : ∀ (n d y i : Nat) (L S : List AV) (X : XT) (o : OUT) (Z : XT) (k : Nat), Go sc n d y i L S X o Z k → Go sc (n + 1) d y i L S X o Z k := by
  intro n
  induction n with
  | zero => intro d y i L S X o Z k h; exact h.elim
  | succ n ih =>
    intro d y i L S X o Z k h
    obtain ⟨sg, h1, L', S', X', P, h2, h3, h4⟩ := h
    exact ⟨sg, h1, L', S', X', P, h2, h3, Tm_mono ih h4⟩
theorem Go_le {sc : SC} {n m d y i : Nat} {L S : List AV} {X : XT} {o : OUT} {Z : XT} {k : Nat} (hnm : n ≤ m) (h : Go sc n d y i L S X o Z k) : Go sc m d y i L S X o Z k := by
  obtain ⟨q, rfl⟩ := Nat.le.dest hnm
  induction q with
  | zero => exact h
  | succ q ih => exact Go_succ _ _ _ _ _ _ _ _ _ _ (ih (Nat.le_add_right _ _))
theorem Cl_d {sc : SC} {n d y z nx : Nat} {L S : List AV} {X : XT} {o : OUT} {Z : XT} {k : Nat} (ih : ∀ (d y i : Nat) (L S : List AV) (X : XT) (o : OUT) (Z : XT) (k : Nat), Go sc n d y i L S X o Z k → Go sc n (d + 1) y i L S X o Z k) (hT : Cl (Go sc n) d y z nx L S X o Z k) : Cl (Go sc n) (d + 1) y z nx L S X o Z k := by
  obtain ⟨d', o1, X1, k1, rfl, h2, h3, h4, h5, h6, h7⟩ := hT
  refine ⟨d' + 1, o1, X1, k1, rfl, h2, h3, h4, h5, ih _ _ _ _ _ _ _ _ _ h6, ?_⟩
  rcases o1 with v | x
  · rcases v with _ | v
    · obtain ⟨k2, h8, h9⟩ := h7
      exact ⟨k2, ih _ _ _ _ _ _ _ _ _ h8, h9⟩
    · obtain ⟨k2, h8, h9⟩ := h7
      exact ⟨k2, ih _ _ _ _ _ _ _ _ _ h8, h9⟩
  · rcases h7 with h7 | ⟨g, h8, h9, k2, h10, h11⟩
    · exact Or.inl h7
    · exact Or.inr ⟨g, h8, h9, k2, ih _ _ _ _ _ _ _ _ _ h10, h11⟩
theorem Go_d {sc : SC} : ∀ (n d y i : Nat) (L S : List AV) (X : XT) (o : OUT) (Z : XT) (k : Nat), Go sc n d y i L S X o Z k → Go sc n (d + 1) y i L S X o Z k := by
  intro n
  induction n with
  | zero => intro d y i L S X o Z k h; exact h.elim
  | succ n ih =>
    intro d y i L S X o Z k h
    obtain ⟨sg, h1, L', S', X', P, h2, h3, hT⟩ := h
    refine ⟨sg, h1, L', S', X', P, h2, h3, ?_⟩
    obtain ⟨st, ops, ins, ln, a, b⟩ := sg
    cases ins
    case nop => exact ih _ _ _ _ _ _ _ _ _ hT
    case goto off => exact ih _ _ _ _ _ _ _ _ _ hT
    case ifCond q off =>
      rcases S' with _ | ⟨x | x, S'⟩
      · exact hT.elim
      · exact ⟨fun c => ih _ _ _ _ _ _ _ _ _ (hT.1 c), fun c => ih _ _ _ _ _ _ _ _ _ (hT.2 c)⟩
      · exact hT.elim
    case if_icmp q off =>
      rcases S' with _ | ⟨w | w, _ | ⟨x | x, S'⟩⟩
      · exact hT.elim
      · exact hT.elim
      · exact ⟨fun c => ih _ _ _ _ _ _ _ _ _ (hT.1 c), fun c => ih _ _ _ _ _ _ _ _ _ (hT.2 c)⟩
      · exact hT.elim
      · exact hT.elim
      · exact hT.elim
      · exact hT.elim
    case tableswitch df lo hi offs =>
      rcases S' with _ | ⟨x | x, S'⟩
      · exact hT.elim
      · exact ⟨hT.1, ih _ _ _ _ _ _ _ _ _ hT.2⟩
      · exact hT.elim
    case invokevirtual ix => exact Cl_d ih hT
    case invokestatic ix => exact Cl_d ih hT
    all_goals exact hT
theorem Ev_d {sc : SC} {d d' y i : Nat} {L S : List AV} {X : XT} {o : OUT} {Z : XT} {k : Nat} (h : Ev sc d y i L S X o Z k) (hd : d ≤ d') : Ev sc d' y i L S X o Z k := by
  obtain ⟨q, rfl⟩ := Nat.le.dest hd
  induction q with
  | zero => exact h
  | succ q ih =>
    obtain ⟨n, hn⟩ := ih (Nat.le_add_right _ _)
    exact ⟨n, Go_d _ _ _ _ _ _ _ _ _ _ hn⟩
theorem Cl_ev {sc : SC} {d y z nx : Nat} {L S : List AV} {X : XT} {o : OUT} {Z : XT} {k : Nat} (hT : Cl (Ev sc) d y z nx L S X o Z k) : ∃ n, Cl (Go sc n) d y z nx L S X o Z k := by
  obtain ⟨d', o1, X1, k1, h1, h2, h3, h4, h5, ⟨n1, h6⟩, h7⟩ := hT
  rcases o1 with v | x
  · rcases v with _ | v
    · obtain ⟨k2, ⟨n2, h8⟩, h9⟩ := h7
      exact ⟨n1 + n2, d', _, X1, k1, h1, h2, h3, h4, h5, Go_le (by omega) h6, k2, Go_le (by omega) h8, h9⟩
    · obtain ⟨k2, ⟨n2, h8⟩, h9⟩ := h7
      exact ⟨n1 + n2, d', _, X1, k1, h1, h2, h3, h4, h5, Go_le (by omega) h6, k2, Go_le (by omega) h8, h9⟩
  · rcases h7 with h7 | ⟨g, h8, h9, k2, ⟨n2, h10⟩, h11⟩
    · exact ⟨n1, d', _, X1, k1, h1, h2, h3, h4, h5, h6, Or.inl h7⟩
    · exact ⟨n1 + n2, d', _, X1, k1, h1, h2, h3, h4, h5, Go_le (by omega) h6, Or.inr ⟨g, h8, h9, k2, Go_le (by omega) h10, h11⟩⟩
theorem Tm_ev {sc : SC} {d y : Nat} {t : Instr × Nat × Nat × Nat} {L S : List AV} {X : XT} {o : OUT} {Z : XT} {k : Nat} (hT : Tm (Ev sc) d y t L S X o Z k) : ∃ n, Tm (Go sc n) d y t L S X o Z k := by
  obtain ⟨ins, ln, a, b⟩ := t
  cases ins
  case nop => exact hT
  case goto off => exact hT
  case ifCond q off =>
    rcases S with _ | ⟨x | x, S⟩
    · exact hT.elim
    · by_cases hc : cz q x
      · obtain ⟨n, hn⟩ := hT.1 hc
        exact ⟨n, fun _ => hn, fun h => absurd hc h⟩
      · obtain ⟨n, hn⟩ := hT.2 hc
        exact ⟨n, fun h => absurd h hc, fun _ => hn⟩
    · exact hT.elim
  case if_icmp q off =>
    rcases S with _ | ⟨w | w, _ | ⟨x | x, S⟩⟩
    · exact hT.elim
    · exact hT.elim
    · by_cases hc : ci2 q x w
      · obtain ⟨n, hn⟩ := hT.1 hc
        exact ⟨n, fun _ => hn, fun h => absurd hc h⟩
      · obtain ⟨n, hn⟩ := hT.2 hc
        exact ⟨n, fun h => absurd h hc, fun _ => hn⟩
    · exact hT.elim
    · exact hT.elim
    · exact hT.elim
    · exact hT.elim
  case tableswitch df lo hi offs =>
    rcases S with _ | ⟨x | x, S⟩
    · exact hT.elim
    · obtain ⟨n, hn⟩ := hT.2
      exact ⟨n, hT.1, hn⟩
    · exact hT.elim
  case invokevirtual ix => exact Cl_ev hT
  case invokestatic ix => exact Cl_ev hT
  all_goals exact ⟨0, hT⟩
def TE (sc : SC) (d y : Nat) (sg : SG) (L S : List AV) (X : XT) (o : OUT) (Z : XT) (k : Nat) : Prop := match sxs sc sg.2.1 L S X with
  | (L', S', X', P) => P ∧ Tm (Ev sc) d y sg.2.2 L' S' X' o Z k
/-- a stretch -/
theorem ev_seg {sc : SC} {d y i : Nat} {sg : SG} {L S : List AV} {X : XT} {o : OUT} {Z : XT} {k : Nat} (hs : (code9 y)[i]? = some sg) (h : TE sc d y sg L S X o Z k) : Ev sc d y i L S X o Z k := by
  unfold TE at h
  rcases hx : sxs sc sg.2.1 L S X with ⟨L', S', X', P⟩
  rw [hx] at h
  obtain ⟨n, hn⟩ := Tm_ev h.2
  exact ⟨n + 1, sg, hs, L', S', X', P, hx, h.1, hn⟩
def clk (z : Nat) (S : List AV) : Bool := decide (mNa z ≤ S.length) && decide (((S.drop (mNa z)).map avc).sum ≤ 8) && (S.take (mNa z)).all (fun v => decide (avc v = 1))
/-- a call that returns -/
theorem cl_ret {sc : SC} {d y z nx : Nat} {L S as rest : List AV} {X X1 : XT} {o : OUT} {v : Option AV} {Z : XT} {k : Nat} (h0 : clk z S = true) (h1 : (S.take (mNa z)).reverse = as) (h2 : S.drop (mNa z) = rest) (h3 : rcOk z as) (hc : Ev sc d z 0 (ent z as) [] X (.inl v) X1 0) (hn : Ev sc (d + 1) y nx L (v.toList ++ rest) X1 o Z k) : Cl (Ev sc) (d + 1) y z nx L S X o Z k := by
  simp only [clk, Bool.and_eq_true, decide_eq_true_eq] at h0
  subst h1
  subst h2
  refine ⟨d, _, X1, 0, rfl, h0.1.1, h0.1.2, h0.2, h3, hc, ?_⟩
  rcases v with _ | v
  · exact ⟨k, hn, (Nat.zero_add k).symm⟩
  · exact ⟨k, hn, (Nat.zero_add k).symm⟩
/-- a call that throws, in a method that doesn't catch -/
theorem cl_thr {sc : SC} {d y z nx x : Nat} {L S as : List AV} {X X1 : XT} {k : Nat} (h0 : clk z S = true) (h1 : (S.take (mNa z)).reverse = as) (h3 : rcOk z as) (hy : mHn y = []) (hc : Ev sc d z 0 (ent z as) [] X (.inr x) X1 k) : Cl (Ev sc) (d + 1) y z nx L S X (.inr x) X1 k := by
  simp only [clk, Bool.and_eq_true, decide_eq_true_eq] at h0
  subst h1
  exact ⟨d, _, X1, k, rfl, h0.1.1, h0.1.2, h0.2, h3, hc, Or.inl ⟨hy, rfl, rfl, rfl⟩⟩
/-- a call whose exception is caught -/
theorem cl_cat {sc : SC} {d y z nx x : Nat} {L S as : List AV} {X X1 : XT} {o : OUT} {Z : XT} {k k2 : Nat} {h : Nat × Nat × Nat × Nat} (h0 : clk z S = true) (h1 : (S.take (mNa z)).reverse = as) (h3 : rcOk z as) (hm : h ∈ mHn y) (hx : h.1 = x) (hc : Ev sc d z 0 (ent z as) [] X (.inr x) X1 k) (hn : Ev sc (d + 1) y h.2.2.2 (L.set h.2.2.1 av0) [] X1 o Z k2) : Cl (Ev sc) (d + 1) y z nx L S X o Z (k + k2) := by
  simp only [clk, Bool.and_eq_true, decide_eq_true_eq] at h0
  subst h1
  exact ⟨d, _, X1, k, rfl, h0.1.1, h0.1.2, h0.2, h3, hc, Or.inr ⟨h, hm, hx, k2, hn, rfl⟩⟩
theorem kS0 : kSh 0 = some (.inl (7, [some 1, some 8, some 15, some 19, some 25, none, none, none, none])) := rfl
theorem kS1 : kSh 1 = some (.inr (.inr (.inr (2, 6, 2)))) := rfl
theorem kS2 : kSh 2 = some (.inl (0, [some 3, some 5, some 6, some 7, none, none])) := rfl
theorem kS3 : kSh 3 = some (.inr (.inr (.inr (1, 5, 4)))) := rfl
theorem kS4 : kSh 4 = some (.inr (.inl 5)) := rfl
theorem kS5 : kSh 5 = some (.inr (.inl 5)) := rfl
theorem kS6 : kSh 6 = some (.inr (.inl 5)) := rfl
theorem kS7 : kSh 7 = some (.inr (.inl 5)) := rfl
theorem kS8 : kSh 8 = some (.inl (5, [some 9, some 12, some 13])) := rfl
theorem kS9 : kSh 9 = some (.inl (2, [some 10])) := rfl
theorem kS10 : kSh 10 = some (.inr (.inr (.inr (1, 5, 11)))) := rfl
theorem kS11 : kSh 11 = some (.inr (.inl 4)) := rfl
theorem kS12 : kSh 12 = some (.inr (.inl 5)) := rfl
theorem kS13 : kSh 13 = some (.inr (.inr (.inr (1, 5, 14)))) := rfl
theorem kS14 : kSh 14 = some (.inr (.inl 5)) := rfl
theorem kS15 : kSh 15 = some (.inl (6, [some 16])) := rfl
theorem kS16 : kSh 16 = some (.inl (2, [some 17])) := rfl
theorem kS17 : kSh 17 = some (.inr (.inr (.inr (1, 6, 18)))) := rfl
theorem kS18 : kSh 18 = some (.inr (.inl 5)) := rfl
theorem kS19 : kSh 19 = some (.inl (3, [some 20, some 23, some 24, none, none, none, none])) := rfl
theorem kS20 : kSh 20 = some (.inl (1, [some 21, some 22])) := rfl
theorem kS21 : kSh 21 = some (.inr (.inl 10)) := rfl
theorem kS22 : kSh 22 = some (.inr (.inl 10)) := rfl
theorem kS23 : kSh 23 = some (.inr (.inl 5)) := rfl
theorem kS24 : kSh 24 = some (.inr (.inl 5)) := rfl
theorem kS25 : kSh 25 = some (.inl (4, [some 26])) := rfl
theorem kS26 : kSh 26 = some (.inl (1, [some 27, some 28])) := rfl
theorem kS27 : kSh 27 = some (.inr (.inl 10)) := rfl
theorem kS28 : kSh 28 = some (.inr (.inl 10)) := rfl
theorem kS30 : kSh 30 = some (.inl (8, [none, none, none, none, some 31, some 32, some 33, some 34, some 35, some 36, some 37, some 38, some 39, some 40, some 41, some 42, none])) := rfl
theorem kS31 : kSh 31 = some (.inr (.inl 6)) := rfl
theorem kS32 : kSh 32 = some (.inr (.inl 6)) := rfl
theorem kS33 : kSh 33 = some (.inr (.inl 30)) := rfl
theorem kS34 : kSh 34 = some (.inr (.inl 30)) := rfl
theorem kS35 : kSh 35 = some (.inr (.inl 30)) := rfl
theorem kS36 : kSh 36 = some (.inr (.inl 30)) := rfl
theorem kS37 : kSh 37 = some (.inr (.inl 150)) := rfl
theorem kS38 : kSh 38 = some (.inr (.inl 5)) := rfl
theorem kS39 : kSh 39 = some (.inr (.inl 5)) := rfl
theorem kS40 : kSh 40 = some (.inr (.inl 25)) := rfl
theorem kS41 : kSh 41 = some (.inr (.inl 15)) := rfl
theorem kS42 : kSh 42 = some (.inr (.inl 5)) := rfl
theorem kS43 : kSh 43 = some (.inr (.inr (.inl 1))) := rfl
theorem kS51 : kSh 51 = none := rfl
theorem kS52 : kSh 52 = none := rfl
theorem kS53 : kSh 53 = none := rfl
theorem en0 (a b c : AV) : ent 0 [a, b, c] = [a, b, c, av0, av0] := rfl
theorem en1 (a : AV) : ent 1 [a] = [a] := rfl
theorem en2 (a b : AV) : ent 2 [a, b] = [a, b] := rfl
theorem en3 (a b : AV) : ent 3 [a, b] = [a, b] := rfl
theorem en4 (a b : AV) : ent 4 [a, b] = [a, b] := rfl
theorem en5 (a : AV) : ent 5 [a] = [a] := rfl
theorem en6 (a b c d e : AV) : ent 6 [a, b, c, d, e] = [a, b, c, d, e] := rfl
theorem en7 (a b c : AV) : ent 7 [a, b, c] = [a, b, c] := rfl
theorem en8 (a b c : AV) : ent 8 [a, b, c] = [a, b, c] := rfl
theorem en9 (a b c : AV) : ent 9 [a, b, c] = [a, b, c, av0] := rfl
theorem en10 (a b c : AV) : ent 10 [a, b, c] = [a, b, c, av0] := rfl
theorem en11 (a b c : AV) : ent 11 [a, b, c] = [a, b, c, av0] := rfl
theorem en12 (a b : AV) : ent 12 [a, b] = [a, b, av0, av0] := rfl
theorem en13 (a : AV) : ent 13 [a] = [a, av0, av0, av0] := rfl
theorem en14 (a b : AV) : ent 14 [a, b] = [a, b] := rfl
theorem en15 (a b : AV) : ent 15 [a, b] = [a, b] := rfl
theorem en16 (a b c : AV) : ent 16 [a, b, c] = [a, b, c, av0, av0] := rfl
theorem en17 (a b c : AV) : ent 17 [a, b, c] = [a, b, c, av0, av0] := rfl
theorem en18 (a b c : AV) : ent 18 [a, b, c] = [a, b, c, av0, av0] := rfl
theorem en19 (a b : AV) : ent 19 [a, b] = [a, b] := rfl
theorem en20 (a b : AV) : ent 20 [a, b] = [a, b] := rfl
theorem en21 (a b c d : AV) : ent 21 [a, b, c, d] = [a, b, c, d] := rfl
theorem en22 (a b : AV) : ent 22 [a, b] = [a, b] := rfl
theorem en23 (a b : AV) : ent 23 [a, b] = [a, b] := rfl
theorem en24 (a b c : AV) : ent 24 [a, b, c] = [a, b, c, av0] := rfl
theorem en25 (a b c d e : AV) : ent 25 [a, b, c, d, e] = [a, b, c, d, e, av0, av0, av0, av0, av0] := rfl
theorem en26 (a b : AV) : ent 26 [a, b] = [a, b] := rfl
theorem en27 (a b : AV) : ent 27 [a, b] = [a, b] := rfl
theorem en28 (a b c d : AV) : ent 28 [a, b, c, d] = [a, b, c, d] := rfl
theorem en29 (a b c : AV) : ent 29 [a, b, c] = [a, b, c] := rfl
theorem en30 (a b c d : AV) : ent 30 [a, b, c, d] = [a, b, c, d, av0] := rfl
theorem en31 (a b c d : AV) : ent 31 [a, b, c, d] = [a, b, c, d, av0] := rfl
theorem en32 (a b c d e : AV) : ent 32 [a, b, c, d, e] = [a, b, c, d, e] := rfl
theorem en33 (a b c d e : AV) : ent 33 [a, b, c, d, e] = [a, b, c, d, e] := rfl
theorem en34 (a b c d e : AV) : ent 34 [a, b, c, d, e] = [a, b, c, d, e, av0] := rfl
theorem en35 (a b : AV) : ent 35 [a, b] = [a, b, av0, av0] := rfl
theorem en36 (a b : AV) : ent 36 [a, b] = [a, b, av0, av0, av0] := rfl
theorem en37 (a b c : AV) : ent 37 [a, b, c] = [a, b, c, av0, av0] := rfl
theorem en38 (a b c : AV) : ent 38 [a, b, c] = [a, b, c, av0, av0] := rfl
theorem en39 (a : AV) : ent 39 [a] = [a, av0, av0, av0] := rfl
theorem en40 (a : AV) : ent 40 [a] = [a, av0, av0, av0] := rfl
theorem en41 (a b c d e : AV) : ent 41 [a, b, c, d, e] = [a, b, c, d, e] := rfl
theorem en42 (a b c d e f : AV) : ent 42 [a, b, c, d, e, f] = [a, b, c, d, e, f, av0, av0, av0, av0, av0] := rfl
theorem en43 (a b : AV) : ent 43 [a, b] = [a, b, av0, av0, av0] := rfl
theorem en44 (a b : AV) : ent 44 [a, b] = [a, b] := rfl
theorem en45 (a b : AV) : ent 45 [a, b] = [a, b, av0] := rfl
theorem en46 (a b c : AV) : ent 46 [a, b, c] = [a, b, c] := rfl
theorem en47 (a b c : AV) : ent 47 [a, b, c] = [a, b, c, av0, av0] := rfl
theorem en48 (a b c d e : AV) : ent 48 [a, b, c, d, e] = [a, b, c, d, e, av0, av0] := rfl
theorem en49 (a b c d : AV) : ent 49 [a, b, c, d] = [a, b, c, d, av0, av0, av0] := rfl
theorem en50 (a b c d : AV) : ent 50 [a, b, c, d] = [a, b, c, d, av0, av0, av0] := rfl
theorem en51 (a b c d e : AV) : ent 51 [a, b, c, d, e] = [a, b, c, d, e, av0, av0, av0] := rfl
theorem en52 (a b c d e : AV) : ent 52 [a, b, c, d, e] = [a, b, c, d, e, av0] := rfl
theorem en53 (a b c d e : AV) : ent 53 [a, b, c, d, e] = [a, b, c, d, e] := rfl
theorem en54 (a b c d : AV) : ent 54 [a, b, c, d] = [a, b, c, d, av0, av0, av0, av0, av0, av0] := rfl
theorem en55 (a b : AV) : ent 55 [a, b] = [a, b] := rfl
theorem en56 (a b c : AV) : ent 56 [a, b, c] = [a, b, c, av0, av0] := rfl
theorem en57 (a b : AV) : ent 57 [a, b] = [a, b, av0, av0] := rfl
theorem en58 (a b : AV) : ent 58 [a, b] = [a, b, av0] := rfl
theorem en59 (a b c d e : AV) : ent 59 [a, b, c, d, e] = [a, b, c, d, e, av0] := rfl
theorem en60 (a b c : AV) : ent 60 [a, b, c] = [a, b, c, av0, av0, av0] := rfl
theorem en61 (a b c : AV) : ent 61 [a, b, c] = [a, b, c, av0] := rfl
theorem en62 (a b c : AV) : ent 62 [a, b, c] = [a, b, c, av0] := rfl
theorem en63 (a b c : AV) : ent 63 [a, b, c] = [a, b, c, av0] := rfl
theorem en64 (a b c : AV) : ent 64 [a, b, c] = [a, b, c] := rfl
theorem en65 (a : AV) : ent 65 [a] = [a] := rfl
theorem en66 (a : AV) : ent 66 [a] = [a] := rfl
theorem en67 (a b : AV) : ent 67 [a, b] = [a, b] := rfl
theorem en68 (a b : AV) : ent 68 [a, b] = [a, b, av0] := rfl
theorem en69 (a b : AV) : ent 69 [a, b] = [a, b, av0] := rfl
theorem en70 (a b : AV) : ent 70 [a, b] = [a, b, av0] := rfl
theorem en71 (a b : AV) : ent 71 [a, b] = [a, b, av0] := rfl
theorem en72 (a b : AV) : ent 72 [a, b] = [a, b, av0] := rfl
theorem en73 (a b c : AV) : ent 73 [a, b, c] = [a, b, c, av0] := rfl
theorem en74 (a b c : AV) : ent 74 [a, b, c] = [a, b, c, av0] := rfl
theorem en75 (a b : AV) : ent 75 [a, b] = [a, b] := rfl
theorem en76 (a b : AV) : ent 76 [a, b] = [a, b] := rfl
theorem en77 (a b : AV) : ent 77 [a, b] = [a, b] := rfl
theorem en78 (a b : AV) : ent 78 [a, b] = [a, b, av0, av0, av0] := rfl
theorem en79 (a b : AV) : ent 79 [a, b] = [a, b] := rfl
theorem en80 (a b : AV) : ent 80 [a, b] = [a, b, av0, av0] := rfl
theorem en81 (a b : AV) : ent 81 [a, b] = [a, b, av0] := rfl
theorem en82 (a b : AV) : ent 82 [a, b] = [a, b, av0] := rfl
theorem en83 (a b : AV) : ent 83 [a, b] = [a, b, av0] := rfl
theorem en84 (a b c : AV) : ent 84 [a, b, c] = [a, b, c] := rfl
theorem en85 (a b : AV) : ent 85 [a, b] = [a, b] := rfl
theorem en86 (a b : AV) : ent 86 [a, b] = [a, b, av0] := rfl
theorem en87 (a b : AV) : ent 87 [a, b] = [a, b] := rfl
theorem en88 (a b c : AV) : ent 88 [a, b, c] = [a, b, c, av0, av0] := rfl
theorem en89 (a : AV) : ent 89 [a] = [a] := rfl
theorem en90 (a b c : AV) : ent 90 [a, b, c] = [a, b, c] := rfl
theorem en91 (a b c d : AV) : ent 91 [a, b, c, d] = [a, b, c, d] := rfl
theorem en92 (a b : AV) : ent 92 [a, b] = [a, b] := rfl
theorem en93 (a b : AV) : ent 93 [a, b] = [a, b] := rfl
theorem en94 (a b : AV) : ent 94 [a, b] = [a, b] := rfl
theorem en95 (a b c : AV) : ent 95 [a, b, c] = [a, b, c] := rfl
theorem en96 (a b c : AV) : ent 96 [a, b, c] = [a, b, c] := rfl
theorem en97 (a b c : AV) : ent 97 [a, b, c] = [a, b, c] := rfl
theorem en98 (a b : AV) : ent 98 [a, b] = [a, b, av0] := rfl
theorem en99 (a b : AV) : ent 99 [a, b] = [a, b, av0, av0, av0] := rfl
theorem en100 (a b c d e : AV) : ent 100 [a, b, c, d, e] = [a, b, c, d, e] := rfl
theorem en101 (a b c d e : AV) : ent 101 [a, b, c, d, e] = [a, b, c, d, e, av0] := rfl
theorem en102 (a b c : AV) : ent 102 [a, b, c] = [a, b, c, av0, av0] := rfl
theorem en103 (a b c : AV) : ent 103 [a, b, c] = [a, b, c, av0] := rfl
theorem en104 (a b c : AV) : ent 104 [a, b, c] = [a, b, c, av0] := rfl
theorem en105 (a b c : AV) : ent 105 [a, b, c] = [a, b, c, av0] := rfl
theorem en106 (a b c : AV) : ent 106 [a, b, c] = [a, b, c] := rfl
theorem en107 (a b c : AV) : ent 107 [a, b, c] = [a, b, c, av0, av0] := rfl
theorem en108 (a b c d : AV) : ent 108 [a, b, c, d] = [a, b, c, d, av0, av0, av0, av0, av0] := rfl
theorem en109 (a b : AV) : ent 109 [a, b] = [a, b] := rfl
theorem en110 (a b c : AV) : ent 110 [a, b, c] = [a, b, c, av0, av0, av0, av0, av0, av0] := rfl
theorem en111 (a b c : AV) : ent 111 [a, b, c] = [a, b, c, av0, av0, av0] := rfl
theorem en112 (a b c : AV) : ent 112 [a, b, c] = [a, b, c, av0, av0, av0, av0, av0, av0, av0] := rfl
theorem en113 (a b : AV) : ent 113 [a, b] = [a, b, av0, av0] := rfl
theorem en114 (a b : AV) : ent 114 [a, b] = [a, b] := rfl
theorem en115 (a b c : AV) : ent 115 [a, b, c] = [a, b, c, av0, av0] := rfl
theorem en116 (a : AV) : ent 116 [a] = [a] := rfl
theorem en117 (a : AV) : ent 117 [a] = [a] := rfl
theorem en118 (a b : AV) : ent 118 [a, b] = [a, b] := rfl
theorem en119 (a b : AV) : ent 119 [a, b] = [a, b, av0, av0] := rfl
theorem en120 (a b : AV) : ent 120 [a, b] = [a, b] := rfl
theorem en121 (a b : AV) : ent 121 [a, b] = [a, b] := rfl
theorem en122 (a b : AV) : ent 122 [a, b] = [a, b] := rfl
theorem en123 (a b : AV) : ent 123 [a, b] = [a, b] := rfl
theorem en124 (a b c : AV) : ent 124 [a, b, c] = [a, b, c, av0] := rfl
theorem en125 (a b c : AV) : ent 125 [a, b, c] = [a, b, c, av0] := rfl
theorem en126 (a b : AV) : ent 126 [a, b] = [a, b] := rfl
theorem en127 (a b : AV) : ent 127 [a, b] = [a, b, av0, av0, av0] := rfl
theorem en128 (a b c : AV) : ent 128 [a, b, c] = [a, b, c, av0, av0] := rfl
theorem en129 (a b c : AV) : ent 129 [a, b, c] = [a, b, c, av0, av0, av0, av0] := rfl
theorem en130 (a b : AV) : ent 130 [a, b] = [a, b, av0, av0] := rfl
theorem en131 (a b : AV) : ent 131 [a, b] = [a, b] := rfl
theorem en132 (a b : AV) : ent 132 [a, b] = [a, b] := rfl
theorem en133 (a b : AV) : ent 133 [a, b] = [a, b, av0] := rfl
theorem en134 (a b : AV) : ent 134 [a, b] = [a, b, av0, av0] := rfl
theorem en135 (a b c : AV) : ent 135 [a, b, c] = [a, b, c, av0, av0, av0] := rfl
theorem en136 (a b c : AV) : ent 136 [a, b, c] = [a, b, c, av0, av0, av0] := rfl
theorem en137 (a b : AV) : ent 137 [a, b] = [a, b] := rfl
theorem en138 (a b c : AV) : ent 138 [a, b, c] = [a, b, c, av0, av0, av0] := rfl
theorem en139 (a b : AV) : ent 139 [a, b] = [a, b] := rfl
theorem en140 (a b : AV) : ent 140 [a, b] = [a, b] := rfl
theorem en141 (a b : AV) : ent 141 [a, b] = [a, b, av0, av0] := rfl
theorem en142 (a b : AV) : ent 142 [a, b] = [a, b, av0, av0, av0, av0, av0, av0, av0, av0] := rfl
theorem en143 (a b c : AV) : ent 143 [a, b, c] = [a, b, c, av0] := rfl
theorem en144 (a b c d e f : AV) : ent 144 [a, b, c, d, e, f] = [a, b, c, d, e, f, av0] := rfl
theorem en145 (a b c d : AV) : ent 145 [a, b, c, d] = [a, b, c, d, av0] := rfl
theorem en146 (a b c d : AV) : ent 146 [a, b, c, d] = [a, b, c, d, av0] := rfl
theorem en147 (a b c d : AV) : ent 147 [a, b, c, d] = [a, b, c, d, av0] := rfl
theorem en148 (a b c d : AV) : ent 148 [a, b, c, d] = [a, b, c, d, av0] := rfl
theorem en149 (a b c : AV) : ent 149 [a, b, c] = [a, b, c, av0] := rfl
theorem en150 (a b c : AV) : ent 150 [a, b, c] = [a, b, c, av0] := rfl
theorem en151 (a b c : AV) : ent 151 [a, b, c] = [a, b, c, av0] := rfl
theorem en152 (a b c : AV) : ent 152 [a, b, c] = [a, b, c, av0] := rfl
theorem en153 (a b c : AV) : ent 153 [a, b, c] = [a, b, c, av0] := rfl
theorem en154 (a b c : AV) : ent 154 [a, b, c] = [a, b, c, av0] := rfl
theorem en155 (a b c : AV) : ent 155 [a, b, c] = [a, b, c, av0] := rfl
theorem en156 (a b c d : AV) : ent 156 [a, b, c, d] = [a, b, c, d, av0] := rfl
theorem en157 (a b c d : AV) : ent 157 [a, b, c, d] = [a, b, c, d, av0] := rfl
theorem en158 (a b c : AV) : ent 158 [a, b, c] = [a, b, c, av0] := rfl
theorem en159 (a b c : AV) : ent 159 [a, b, c] = [a, b, c, av0] := rfl
theorem en160 (a b c : AV) : ent 160 [a, b, c] = [a, b, c, av0] := rfl
theorem en161 (a b c : AV) : ent 161 [a, b, c] = [a, b, c, av0] := rfl
theorem en162 (a b c : AV) : ent 162 [a, b, c] = [a, b, c, av0] := rfl
theorem en163 (a b c : AV) : ent 163 [a, b, c] = [a, b, c, av0] := rfl
theorem en164 (a b c : AV) : ent 164 [a, b, c] = [a, b, c, av0] := rfl
theorem en165 (a b c : AV) : ent 165 [a, b, c] = [a, b, c, av0] := rfl
theorem en166 (a b c : AV) : ent 166 [a, b, c] = [a, b, c, av0] := rfl
theorem en167 (a : AV) : ent 167 [a] = [a, av0, av0] := rfl
/-- a loop that counts up -/
theorem loop_up {P : Nat → Prop} {n : Nat} (hx : P n) (hs : ∀ j, j < n → P (j + 1) → P j) : ∀ j, j ≤ n → P j := by
  have h : ∀ q, q ≤ n → P (n - q) := by
    intro q
    induction q with
    | zero => intro _; exact hx
    | succ q ih =>
      intro hq
      refine hs (n - (q + 1)) (by omega) ?_
      rw [show n - (q + 1) + 1 = n - q by omega]
      exact ih (by omega)
  intro j hj
  have h1 := h (n - j) (by omega)
  rwa [show n - (n - j) = j by omega] at h1
abbrev vI (x : Int32) : AV := .inl x
abbrev vR (k : Nat) (a b : Int32) : AV := .inr (.inr (k, a, b))
theorem cv1 {sc : SC} {d y z nx : Nat} {L rest : List AV} {a1 v : AV} {X X1 : XT} {o : OUT} {Z : XT} {k : Nat} (hz : mNa z = 1) (h0 : clk z (a1 :: rest) = true) (h3 : rcOk z [a1]) (hc : Ev sc d z 0 (ent z [a1]) [] X (.inl (some v)) X1 0) (hn : Ev sc (d + 1) y nx L (v :: rest) X1 o Z k) : Cl (Ev sc) (d + 1) y z nx L (a1 :: rest) X o Z k := cl_ret h0 (by rw [hz]; rfl) (by rw [hz]; rfl) h3 hc hn
theorem cu1 {sc : SC} {d y z nx : Nat} {L rest : List AV} {a1 : AV} {X X1 : XT} {o : OUT} {Z : XT} {k : Nat} (hz : mNa z = 1) (h0 : clk z (a1 :: rest) = true) (h3 : rcOk z [a1]) (hc : Ev sc d z 0 (ent z [a1]) [] X (.inl none) X1 0) (hn : Ev sc (d + 1) y nx L (rest) X1 o Z k) : Cl (Ev sc) (d + 1) y z nx L (a1 :: rest) X o Z k := cl_ret h0 (by rw [hz]; rfl) (by rw [hz]; rfl) h3 hc hn
theorem cv2 {sc : SC} {d y z nx : Nat} {L rest : List AV} {a1 a2 v : AV} {X X1 : XT} {o : OUT} {Z : XT} {k : Nat} (hz : mNa z = 2) (h0 : clk z (a2 :: a1 :: rest) = true) (h3 : rcOk z [a1, a2]) (hc : Ev sc d z 0 (ent z [a1, a2]) [] X (.inl (some v)) X1 0) (hn : Ev sc (d + 1) y nx L (v :: rest) X1 o Z k) : Cl (Ev sc) (d + 1) y z nx L (a2 :: a1 :: rest) X o Z k := cl_ret h0 (by rw [hz]; rfl) (by rw [hz]; rfl) h3 hc hn
theorem cu2 {sc : SC} {d y z nx : Nat} {L rest : List AV} {a1 a2 : AV} {X X1 : XT} {o : OUT} {Z : XT} {k : Nat} (hz : mNa z = 2) (h0 : clk z (a2 :: a1 :: rest) = true) (h3 : rcOk z [a1, a2]) (hc : Ev sc d z 0 (ent z [a1, a2]) [] X (.inl none) X1 0) (hn : Ev sc (d + 1) y nx L (rest) X1 o Z k) : Cl (Ev sc) (d + 1) y z nx L (a2 :: a1 :: rest) X o Z k := cl_ret h0 (by rw [hz]; rfl) (by rw [hz]; rfl) h3 hc hn
theorem cv3 {sc : SC} {d y z nx : Nat} {L rest : List AV} {a1 a2 a3 v : AV} {X X1 : XT} {o : OUT} {Z : XT} {k : Nat} (hz : mNa z = 3) (h0 : clk z (a3 :: a2 :: a1 :: rest) = true) (h3 : rcOk z [a1, a2, a3]) (hc : Ev sc d z 0 (ent z [a1, a2, a3]) [] X (.inl (some v)) X1 0) (hn : Ev sc (d + 1) y nx L (v :: rest) X1 o Z k) : Cl (Ev sc) (d + 1) y z nx L (a3 :: a2 :: a1 :: rest) X o Z k := cl_ret h0 (by rw [hz]; rfl) (by rw [hz]; rfl) h3 hc hn
theorem cu3 {sc : SC} {d y z nx : Nat} {L rest : List AV} {a1 a2 a3 : AV} {X X1 : XT} {o : OUT} {Z : XT} {k : Nat} (hz : mNa z = 3) (h0 : clk z (a3 :: a2 :: a1 :: rest) = true) (h3 : rcOk z [a1, a2, a3]) (hc : Ev sc d z 0 (ent z [a1, a2, a3]) [] X (.inl none) X1 0) (hn : Ev sc (d + 1) y nx L (rest) X1 o Z k) : Cl (Ev sc) (d + 1) y z nx L (a3 :: a2 :: a1 :: rest) X o Z k := cl_ret h0 (by rw [hz]; rfl) (by rw [hz]; rfl) h3 hc hn
theorem cv4 {sc : SC} {d y z nx : Nat} {L rest : List AV} {a1 a2 a3 a4 v : AV} {X X1 : XT} {o : OUT} {Z : XT} {k : Nat} (hz : mNa z = 4) (h0 : clk z (a4 :: a3 :: a2 :: a1 :: rest) = true) (h3 : rcOk z [a1, a2, a3, a4]) (hc : Ev sc d z 0 (ent z [a1, a2, a3, a4]) [] X (.inl (some v)) X1 0) (hn : Ev sc (d + 1) y nx L (v :: rest) X1 o Z k) : Cl (Ev sc) (d + 1) y z nx L (a4 :: a3 :: a2 :: a1 :: rest) X o Z k := cl_ret h0 (by rw [hz]; rfl) (by rw [hz]; rfl) h3 hc hn
theorem cu4 {sc : SC} {d y z nx : Nat} {L rest : List AV} {a1 a2 a3 a4 : AV} {X X1 : XT} {o : OUT} {Z : XT} {k : Nat} (hz : mNa z = 4) (h0 : clk z (a4 :: a3 :: a2 :: a1 :: rest) = true) (h3 : rcOk z [a1, a2, a3, a4]) (hc : Ev sc d z 0 (ent z [a1, a2, a3, a4]) [] X (.inl none) X1 0) (hn : Ev sc (d + 1) y nx L (rest) X1 o Z k) : Cl (Ev sc) (d + 1) y z nx L (a4 :: a3 :: a2 :: a1 :: rest) X o Z k := cl_ret h0 (by rw [hz]; rfl) (by rw [hz]; rfl) h3 hc hn
theorem cv5 {sc : SC} {d y z nx : Nat} {L rest : List AV} {a1 a2 a3 a4 a5 v : AV} {X X1 : XT} {o : OUT} {Z : XT} {k : Nat} (hz : mNa z = 5) (h0 : clk z (a5 :: a4 :: a3 :: a2 :: a1 :: rest) = true) (h3 : rcOk z [a1, a2, a3, a4, a5]) (hc : Ev sc d z 0 (ent z [a1, a2, a3, a4, a5]) [] X (.inl (some v)) X1 0) (hn : Ev sc (d + 1) y nx L (v :: rest) X1 o Z k) : Cl (Ev sc) (d + 1) y z nx L (a5 :: a4 :: a3 :: a2 :: a1 :: rest) X o Z k := cl_ret h0 (by rw [hz]; rfl) (by rw [hz]; rfl) h3 hc hn
theorem cu5 {sc : SC} {d y z nx : Nat} {L rest : List AV} {a1 a2 a3 a4 a5 : AV} {X X1 : XT} {o : OUT} {Z : XT} {k : Nat} (hz : mNa z = 5) (h0 : clk z (a5 :: a4 :: a3 :: a2 :: a1 :: rest) = true) (h3 : rcOk z [a1, a2, a3, a4, a5]) (hc : Ev sc d z 0 (ent z [a1, a2, a3, a4, a5]) [] X (.inl none) X1 0) (hn : Ev sc (d + 1) y nx L (rest) X1 o Z k) : Cl (Ev sc) (d + 1) y z nx L (a5 :: a4 :: a3 :: a2 :: a1 :: rest) X o Z k := cl_ret h0 (by rw [hz]; rfl) (by rw [hz]; rfl) h3 hc hn
theorem cv6 {sc : SC} {d y z nx : Nat} {L rest : List AV} {a1 a2 a3 a4 a5 a6 v : AV} {X X1 : XT} {o : OUT} {Z : XT} {k : Nat} (hz : mNa z = 6) (h0 : clk z (a6 :: a5 :: a4 :: a3 :: a2 :: a1 :: rest) = true) (h3 : rcOk z [a1, a2, a3, a4, a5, a6]) (hc : Ev sc d z 0 (ent z [a1, a2, a3, a4, a5, a6]) [] X (.inl (some v)) X1 0) (hn : Ev sc (d + 1) y nx L (v :: rest) X1 o Z k) : Cl (Ev sc) (d + 1) y z nx L (a6 :: a5 :: a4 :: a3 :: a2 :: a1 :: rest) X o Z k := cl_ret h0 (by rw [hz]; rfl) (by rw [hz]; rfl) h3 hc hn
theorem cu6 {sc : SC} {d y z nx : Nat} {L rest : List AV} {a1 a2 a3 a4 a5 a6 : AV} {X X1 : XT} {o : OUT} {Z : XT} {k : Nat} (hz : mNa z = 6) (h0 : clk z (a6 :: a5 :: a4 :: a3 :: a2 :: a1 :: rest) = true) (h3 : rcOk z [a1, a2, a3, a4, a5, a6]) (hc : Ev sc d z 0 (ent z [a1, a2, a3, a4, a5, a6]) [] X (.inl none) X1 0) (hn : Ev sc (d + 1) y nx L (rest) X1 o Z k) : Cl (Ev sc) (d + 1) y z nx L (a6 :: a5 :: a4 :: a3 :: a2 :: a1 :: rest) X o Z k := cl_ret h0 (by rw [hz]; rfl) (by rw [hz]; rfl) h3 hc hn
theorem cv7 {sc : SC} {d y z nx : Nat} {L rest : List AV} {a1 a2 a3 a4 a5 a6 a7 v : AV} {X X1 : XT} {o : OUT} {Z : XT} {k : Nat} (hz : mNa z = 7) (h0 : clk z (a7 :: a6 :: a5 :: a4 :: a3 :: a2 :: a1 :: rest) = true) (h3 : rcOk z [a1, a2, a3, a4, a5, a6, a7]) (hc : Ev sc d z 0 (ent z [a1, a2, a3, a4, a5, a6, a7]) [] X (.inl (some v)) X1 0) (hn : Ev sc (d + 1) y nx L (v :: rest) X1 o Z k) : Cl (Ev sc) (d + 1) y z nx L (a7 :: a6 :: a5 :: a4 :: a3 :: a2 :: a1 :: rest) X o Z k := cl_ret h0 (by rw [hz]; rfl) (by rw [hz]; rfl) h3 hc hn
theorem cu7 {sc : SC} {d y z nx : Nat} {L rest : List AV} {a1 a2 a3 a4 a5 a6 a7 : AV} {X X1 : XT} {o : OUT} {Z : XT} {k : Nat} (hz : mNa z = 7) (h0 : clk z (a7 :: a6 :: a5 :: a4 :: a3 :: a2 :: a1 :: rest) = true) (h3 : rcOk z [a1, a2, a3, a4, a5, a6, a7]) (hc : Ev sc d z 0 (ent z [a1, a2, a3, a4, a5, a6, a7]) [] X (.inl none) X1 0) (hn : Ev sc (d + 1) y nx L (rest) X1 o Z k) : Cl (Ev sc) (d + 1) y z nx L (a7 :: a6 :: a5 :: a4 :: a3 :: a2 :: a1 :: rest) X o Z k := cl_ret h0 (by rw [hz]; rfl) (by rw [hz]; rfl) h3 hc hn
def bI (p : Prop) [Decidable p] : Int32 := if p then 1 else 0
theorem bI_t {p : Prop} [Decidable p] (h : p) : bI p = 1 := if_pos h
theorem bI_f {p : Prop} [Decidable p] (h : ¬ p) : bI p = 0 := if_neg h
theorem bI_01 (p : Prop) [Decidable p] : bI p = 0 ∨ bI p = 1 := by
  by_cases h : p
  · exact Or.inr (bI_t h)
  · exact Or.inl (bI_f h)
theorem bI_ne {p : Prop} [Decidable p] : ¬ bI p = 0 ↔ p := by
  by_cases h : p
  · rw [bI_t h]; exact ⟨fun _ => h, fun _ => by decide⟩
  · rw [bI_f h]; exact ⟨fun q => absurd rfl q, fun q => absurd q h⟩
theorem bI_eq {p : Prop} [Decidable p] : bI p = 0 ↔ ¬ p := by
  by_cases h : p
  · rw [bI_t h]; exact ⟨fun q => absurd q (by decide), fun q => absurd h q⟩
  · rw [bI_f h]; exact ⟨fun _ => h, fun _ => rfl⟩
def sumN (f : Nat → Int32) : Nat → Int32
  | 0 => 0
  | n + 1 => sumN f n + f n
theorem sumN_congr {f g : Nat → Int32} : ∀ {n : Nat}, (∀ j, j < n → f j = g j) → sumN f n = sumN g n
  | 0, _ => rfl
  | n + 1, h => by rw [sumN, sumN, sumN_congr (fun j hj => h j (by omega)), h n (by omega)]
theorem sumN_zero {f : Nat → Int32} : ∀ {n : Nat}, (∀ j, j < n → f j = 0) → sumN f n = 0
  | 0, _ => rfl
  | n + 1, h => by rw [sumN, sumN_zero (fun j hj => h j (by omega)), h n (by omega)]; rfl
theorem vpn {j n : Nat} (h : j < n) (hn : n < 1000) : vp_in (nI j) n := vp_in_nI h (by omega)
theorem nle {a b : Nat} (h : a < b) (hb : b < 1000) : ¬ nI b ≤ nI a := nI_ge h (by omega)
theorem nleI {a b : Nat} (h : a ≤ b) (hb : b < 1000) : nI a ≤ nI b := nI_le h (by omega)
theorem i_nlt {x y : Int32} (h : x ≤ y) : ¬ y < x := fun q => by
  rw [Int32.lt_iff_toInt_lt] at q
  rw [Int32.le_iff_toInt_le] at h
  omega
theorem i_lt {x y : Int32} (h : ¬ x ≤ y) : y < x := by
  rw [Int32.lt_iff_toInt_lt]
  rw [Int32.le_iff_toInt_le] at h
  omega
theorem i_le {x y : Int32} (h : ¬ x < y) : y ≤ x := by
  rw [Int32.le_iff_toInt_le]
  rw [Int32.lt_iff_toInt_lt] at h
  omega
theorem i_irr (x : Int32) : ¬ x < x := fun q => by
  rw [Int32.lt_iff_toInt_lt] at q
  omega
theorem i_tr {x y z : Int32} (h1 : x < y) (h2 : y < z) : x < z := by
  rw [Int32.lt_iff_toInt_lt] at *
  omega
theorem i_tri {x y : Int32} (h : ¬ x = y) : x < y ∨ y < x := by
  rw [Int32.lt_iff_toInt_lt, Int32.lt_iff_toInt_lt]
  have h2 : x.toInt ≠ y.toInt := fun q => h (Int32.toInt_inj.mp q)
  omega
theorem i_ne {x y : Int32} (h : x < y) : ¬ x = y := fun q => i_irr x (by rw [q] at h ⊢; exact h)
