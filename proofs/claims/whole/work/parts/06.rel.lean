/-! how the abstract machine's numbers lie in a heap -/
def lwG : List Jvm.Cond := lw_tbl.filter goodWord
theorem lwG_in {w : Jvm.Cond} (h : w ∈ lw_tbl) (hg : goodWord w = true) : w ∈ lwG := List.mem_filter.mpr ⟨h, hg⟩
theorem u_good {C : String} {T : u_T} {N : Nat} : ∀ w ∈ u_ws C T N, goodWord w = true := by
  intro w hw
  obtain ⟨k, -, rfl⟩ := List.mem_map.mp hw
  unfold u_lay
  split <;> rfl
def ids : List (Nat × Int32 × Int32) := (List.range 44).flatMap fun k => match kTab.getD k none with
  | some (na, nb, _) => (List.range na).flatMap fun a => (List.range nb).map fun b => (k, nI a, nI b)
  | none => []
abbrev ADR : Type := Nat → Int32 → Int32 → Nat
def fV (ad : ADR) (X : XT) (k : Nat) (a b : Int32) (j : Nat) (f : Option Nat) : Value := match f with
  | some k' => .ref (ad k' a b)
  | none => .int (X.1 k a b (nI j))
def wV (ad : ADR) (X : XT) (k : Nat) (a b : Int32) (fs : List (Option Nat)) : List Value := (List.range fs.length).map fun j => fV ad X k a b j (fs[j]?).join
def wE (tc : Nat → ClassId) (ad : ADR) (X : XT) (q : Nat × Int32 × Int32) : va_E := match kSh q.1 with
  | some (.inl (ci, fs)) => .inr (ci, wV ad X q.1 q.2.1 q.2.2 fs)
  | some (.inr (.inl n)) => .inl (tc 0, n, .inl (fun j => if j < n then X.1 q.1 q.2.1 q.2.2 (nI j) else 0))
  | some (.inr (.inr (.inl n))) => .inl (tc 3, n, .inr (.inl (fun j => if j = 0 then X.2 else 0)))
  | some (.inr (.inr (.inr (t, n, e)))) => .inl (tc t, n, .inr (.inr (.inr (.inr (fun j => if j < n then some (ad e q.2.2 (nI j)) else none)))))
  | none => .inr (0, [])
def wW (tc : Nat → ClassId) (ad : ADR) (X : XT) : va_W := ids.map fun q => (ad q.1 q.2.1 q.2.2, wE tc ad X q)
def tyW (tc : Nat → ClassId) : List (ClassId × FieldType) := [(tc 0, .int), (tc 1, .array .int), (tc 2, .object "GroupTables$Group"), (tc 3, .long)]
def cv (ad : ADR) (v : AV) : Value := match v with
  | .inl x => .int x
  | .inr (.inl z) => .long z
  | .inr (.inr (k, a, b)) => .ref (ad k a b)
def vok (v : AV) : Prop := match v with
  | .inr (.inr (k, a, b)) => (k, a, b) ∈ ids ∨ (51 ≤ k ∧ a = 0 ∧ b = 0)
  | _ => True
theorem cv_cat (ad : ADR) (v : AV) : (cv ad v).category = avc v := by
  rcases v with x | z | ⟨k, a, b⟩ <;> rfl
theorem cv_cats (ad : ADR) (S : List AV) : ((S.map (cv ad)).map fun v => v.category).sum = (S.map avc).sum := by
  rw [List.map_map]
  congr 1
  exact List.map_congr_left (fun v _ => cv_cat ad v)
def exD : List String := ["java/lang/RuntimeException", "java/lang/Exception", "java/lang/Throwable"]
/-- what holds of all made things, in every state behind the law's start -/
def Gl (sc : SC) (ad : ADR) (A : Nat → Prop) (U : State) (H : Heap) : Prop :=
  vx_Zq Bundle.tN "UNASSIGNED_STACK" Bundle.steD A U H ∧ vx_Zq Bundle.tN "SUPPRESSED_SENTINEL" Bundle.listD A U H ∧
  (∀ q ∈ STl, ∃ sa, vk_R RX7 q.1 q.2 sa U) ∧
  (∀ k, 51 ≤ k → k < 53 → va_Z (roM k).1 (roM k).2 "[I" (.ref (ad k 0 0)) A U H) ∧
  (∀ k, 51 ≤ k → k < 54 → va_T .int (ad k 0 0) (roN sc k) (fun j => .int (roV sc k j)) A U H) ∧
  (∀ a b, a < 3 → b < 3 → a ≠ b → va_Nc (exN a) (exN b) U) ∧ va_Nw (.methodLinkNest RX3 72 yX7_waysOf "GroupTables") U ∧ (∀ a, a < 3 → va_Nw (.castable (exN a) (exN a)) U) ∧ ∀ n ∈ exD, va_Nw (.declares (Bundle.initS n)) U
theorem Gl.kept {sc : SC} {ad : ADR} {A : Nat → Prop} {U : State} {H H1 : Heap} (h : Gl sc ad A U H) (hq : ∀ a : Nat, a < H.size → ¬ A a → H1[a]? = H[a]?) : Gl sc ad A U H1 :=
  ⟨h.1.kept hq, h.2.1.kept hq, h.2.2.1, fun k h1 h2 => (h.2.2.2.1 k h1 h2).kept hq, fun k h1 h2 => (h.2.2.2.2.1 k h1 h2).kept hq, h.2.2.2.2.2⟩
theorem Gl.narrow {sc : SC} {ad : ADR} {A B : Nat → Prop} {U : State} {H : Heap} (h : Gl sc ad A U H) (hAB : ∀ q, B q → A q) : Gl sc ad B U H :=
  ⟨h.1.narrow hAB, h.2.1.narrow hAB, h.2.2.1, fun k h1 h2 => (h.2.2.2.1 k h1 h2).narrow hAB, fun k h1 h2 => (h.2.2.2.2.1 k h1 h2).narrow hAB, h.2.2.2.2.2⟩
theorem Gl.warm {sc : SC} {ad : ADR} {A : Nat → Prop} {s U : State} {H : Heap} (hW : s.WarmedH U.vm) (h : Gl sc ad A s H) : Gl sc ad A U H :=
  ⟨h.1.moved hW.alike, h.2.1.moved hW.alike, fun q hq => by
    obtain ⟨sa, h1⟩ := h.2.2.1 q hq
    exact ⟨sa, vk_R.warm hW h1⟩, fun k h1 h2 => (h.2.2.2.1 k h1 h2).moved hW.alike, fun k h1 h2 => (h.2.2.2.2.1 k h1 h2).moved hW.alike, fun a b h1 h2 h3 => (h.2.2.2.2.2.1 a b h1 h2 h3).moved hW.alike, va_Nw.warmM hW h.2.2.2.2.2.2.1, fun a h1 => va_Nw.warmC hW (h.2.2.2.2.2.2.2.1 a h1), fun n hn => va_Nw.warmD hW (h.2.2.2.2.2.2.2.2 n hn)⟩
theorem Gl.same {sc : SC} {ad : ADR} {A : Nat → Prop} {u U : State} {H : Heap} (hv : U.vm = u.vm) (h : Gl sc ad A u H) : Gl sc ad A U H := by
  have ha : u.vm.Alike U.vm := by rw [hv]; exact Vm.Alike.refl u.vm
  exact ⟨h.1.moved ha, h.2.1.moved ha, fun q hq => by
    obtain ⟨sa, h1⟩ := h.2.2.1 q hq
    exact ⟨sa, vk_R.same hv h1⟩, fun k h1 h2 => (h.2.2.2.1 k h1 h2).moved ha, fun k h1 h2 => (h.2.2.2.2.1 k h1 h2).moved ha, fun a b h1 h2 h3 => (h.2.2.2.2.2.1 a b h1 h2 h3).moved ha, va_Nw.same rfl hv.symm h.2.2.2.2.2.2.1, fun a h1 => va_Nw.same rfl hv.symm (h.2.2.2.2.2.2.2.1 a h1), fun n hn => va_Nw.same rfl hv.symm (h.2.2.2.2.2.2.2.2 n hn)⟩
/-! kinds -/
theorem kSh_lt {k : Nat} {z : SH} (h : kSh k = some z) : k < 44 := by
  unfold kSh at h
  by_cases hk : k < 44
  · exact hk
  · have : kTab[k]? = none := List.getElem?_eq_none (by show 44 ≤ k; omega)
    simp [List.getD, this] at h
theorem kSh_none {k : Nat} (h : 44 ≤ k) : kSh k = none := by
  cases hz : kSh k with
  | none => rfl
  | some z => have := kSh_lt hz; omega
theorem kAll (P : SH → Bool) (h : kTab.all (fun q => match q with | some r => P r.2.2 | none => true) = true) {k : Nat} {z : SH} (hz : kSh k = some z) : P z = true := by
  unfold kSh at hz
  cases hq : kTab[k]? with
  | none => simp [List.getD, hq] at hz
  | some o =>
    have hm := List.all_eq_true.mp h o (List.mem_of_getElem? hq)
    cases o with
    | none => simp [List.getD, hq] at hz
    | some r =>
      simp only [List.getD, hq, Option.getD_some, Option.map_some, Option.some.injEq] at hz
      subst hz
      exact hm
theorem kInt {k n : Nat} (h : kSh k = some (.inr (.inl n))) : n < 1000 := by
  have := kAll (fun z => match z with | .inr (.inl n) => decide (n < 1000) | _ => true) (by decide +kernel) h
  simpa using this
theorem kRef {k t n e : Nat} (h : kSh k = some (.inr (.inr (.inr (t, n, e))))) : (t = 1 ∨ t = 2) ∧ n < 1000 := by
  have := kAll (fun z => match z with | .inr (.inr (.inr (t, n, _))) => decide ((t = 1 ∨ t = 2) ∧ n < 1000) | _ => true) (by decide +kernel) h
  simpa using this
theorem kObj {k ci : Nat} {fs : List (Option Nat)} (h : kSh k = some (.inl (ci, fs))) : ci < 9 ∧ fs.length = (vC ci).2.2 ∧ fs.length < 1000 := by
  have := kAll (fun z => match z with | .inl (ci, fs) => decide (ci < 9 ∧ fs.length = (vC ci).2.2 ∧ fs.length < 1000) | _ => true) (by decide +kernel) h
  simpa using this
theorem ids_fld {k ci i k' : Nat} {a b : Int32} {fs : List (Option Nat)} (hm : (k, a, b) ∈ ids) (h : kSh k = some (.inl (ci, fs))) (hf : fs[i]? = some (some k')) : (k', a, b) ∈ ids := by
  have h0 : (ids.all fun q => match kSh q.1 with | some (.inl (_, fs)) => fs.all (fun f => match f with | some k' => decide ((k', q.2.1, q.2.2) ∈ ids) | none => true) | _ => true) = true := by decide +kernel
  have h1 := List.all_eq_true.mp h0 _ hm
  simp only [h] at h1
  have h2 := List.all_eq_true.mp h1 _ (List.mem_of_getElem? hf)
  simpa using h2
theorem ids_el {k t n e : Nat} {a b : Int32} (hm : (k, a, b) ∈ ids) (h : kSh k = some (.inr (.inr (.inr (t, n, e))))) {j : Nat} (hj : j < n) : (e, b, nI j) ∈ ids := by
  have h0 : (ids.all fun q => match kSh q.1 with | some (.inr (.inr (.inr (_, n, e)))) => (List.range n).all (fun j => decide ((e, q.2.2, nI j) ∈ ids)) | _ => true) = true := by decide +kernel
  have h1 := List.all_eq_true.mp h0 _ hm
  simp only [h] at h1
  have h2 := List.all_eq_true.mp h1 j (List.mem_range.mpr hj)
  simpa using h2
theorem vok_in {k : Nat} {a b : Int32} {z : SH} (h : vok (.inr (.inr (k, a, b)))) (hz : kSh k = some z) : (k, a, b) ∈ ids := by
  rcases h with h | h
  · exact h
  · have := kSh_lt hz
    omega
/-- an index within: its number -/
theorem vp_nat {i : Int32} {n : Nat} (h : vp_in i n) : nI i.toNatClampNeg = i ∧ i.toNatClampNeg < n ∧ i.toNatClampNeg < 2 ^ 31 := by
  have h0 : ¬ i < 0 := fun q => h (Or.inl q)
  obtain ⟨j, hj, rfl⟩ := nI_of h0
  rw [nI_clamp hj]
  exact ⟨rfl, by
    have := Nat.not_le.mp fun q => h (Or.inr q)
    rwa [nI_clamp hj] at this, hj⟩
theorem nI_inj {a b : Nat} (ha : a < 2 ^ 31) (hb : b < 2 ^ 31) (h : nI a = nI b) : a = b := (nI_eq ha hb).mp h
/-! worlds -/
theorem wW_at (tc : Nat → ClassId) (ad : ADR) (X : XT) {q : Nat × Int32 × Int32} {i : Nat} (h : ids[i]? = some q) : (wW tc ad X)[i]? = some (ad q.1 q.2.1 q.2.2, wE tc ad X q) := by
  unfold wW
  rw [List.getElem?_map, h]
  rfl
theorem wW_len (tc : Nat → ClassId) (ad : ADR) (X : XT) : (wW tc ad X).length = ids.length := by unfold wW; rw [List.length_map]
theorem wW_ad {tc : Nat → ClassId} {ad : ADR} {X : XT} {i : Nat} {p : Nat × va_E} (h : (wW tc ad X)[i]? = some p) : ∃ q, ids[i]? = some q ∧ p = (ad q.1 q.2.1 q.2.2, wE tc ad X q) := by
  unfold wW at h
  rw [List.getElem?_map] at h
  cases hq : ids[i]? with
  | none => rw [hq] at h; cases h
  | some q => rw [hq] at h; cases h; exact ⟨q, rfl, rfl⟩
theorem wD_to {tc : Nat → ClassId} {ad : ADR} {X Y : XT} {A : Nat → Prop} (h : va_D A (wW tc ad X)) : va_D A (wW tc ad Y) := by
  refine ⟨fun i j p q hp hq e => ?_, fun k q hq => ?_⟩
  · obtain ⟨p', h1, rfl⟩ := wW_ad hp
    obtain ⟨q', h2, rfl⟩ := wW_ad hq
    exact h.1 i j _ _ (wW_at tc ad X h1) (wW_at tc ad X h2) e
  · obtain ⟨q', h2, rfl⟩ := wW_ad hq
    exact (show A (ad q'.1 q'.2.1 q'.2.2) from h.2 k _ (wW_at tc ad X h2))
theorem wW_set {tc : Nat → ClassId} {ad : ADR} {X Y : XT} {A : Nat → Prop} (hD : va_D A (wW tc ad X)) {i : Nat} {q : Nat × Int32 × Int32} (hq : ids[i]? = some q) (hY : ∀ r ∈ ids, r ≠ q → wE tc ad Y r = wE tc ad X r) :
    (wW tc ad X).set i (ad q.1 q.2.1 q.2.2, wE tc ad Y q) = wW tc ad Y := by
  apply List.ext_getElem?
  intro j
  by_cases hj : j = i
  · subst hj
    have hl : j < (wW tc ad X).length := (List.getElem?_eq_some_iff.mp (wW_at tc ad X hq)).1
    rw [List.getElem?_set_self hl, wW_at tc ad Y hq]
  · rw [List.getElem?_set_ne (fun e => hj e.symm)]
    cases hr : ids[j]? with
    | none =>
      have h1 : ids.length ≤ j := List.getElem?_eq_none_iff.mp hr
      rw [List.getElem?_eq_none (by rw [wW_len]; exact h1), List.getElem?_eq_none (by rw [wW_len]; exact h1)]
    | some r =>
      rw [wW_at tc ad X hr, wW_at tc ad Y hr]
      rw [hY r (List.mem_of_getElem? hr) (fun e => hj (hD.1 j i _ _ (wW_at tc ad X hr) (wW_at tc ad X hq) (by rw [e])))]
theorem xs_self (X : XF) (k : Nat) (a b j x : Int32) : xs X k a b j x k a b j = x := by unfold xs; simp
theorem xs_nj (X : XF) (k : Nat) (a b : Int32) {i j : Int32} (x : Int32) (h : i ≠ j) : xs X k a b j x k a b i = X k a b i := by unfold xs; simp [h]
theorem xs_ne (X : XF) {k k' : Nat} {a b a' b' : Int32} (j x : Int32) (h : (k', a', b') ≠ (k, a, b)) : xs X k a b j x k' a' b' = X k' a' b' := by
  funext i
  unfold xs
  rw [if_neg]
  rintro ⟨rfl, rfl, rfl, -⟩
  exact h rfl
theorem wE_ne {tc : Nat → ClassId} {ad : ADR} {X Y : XT} {r : Nat × Int32 × Int32} (h1 : Y.1 r.1 r.2.1 r.2.2 = X.1 r.1 r.2.1 r.2.2) (h2 : Y.2 = X.2) : wE tc ad Y r = wE tc ad X r := by
  unfold wE wV fV
  rw [h1, h2]
theorem wE_obj {tc : Nat → ClassId} {ad : ADR} {X : XT} {k ci : Nat} {a b : Int32} {fs : List (Option Nat)} (h : kSh k = some (.inl (ci, fs))) : wE tc ad X (k, a, b) = .inr (ci, wV ad X k a b fs) := by
  unfold wE; simp only [h]
theorem wE_int {tc : Nat → ClassId} {ad : ADR} {X : XT} {k n : Nat} {a b : Int32} (h : kSh k = some (.inr (.inl n))) : wE tc ad X (k, a, b) = .inl (tc 0, n, .inl (fun j => if j < n then X.1 k a b (nI j) else 0)) := by
  unfold wE; simp only [h]
theorem wE_long {tc : Nat → ClassId} {ad : ADR} {X : XT} {k n : Nat} {a b : Int32} (h : kSh k = some (.inr (.inr (.inl n)))) : wE tc ad X (k, a, b) = .inl (tc 3, n, .inr (.inl (fun j => if j = 0 then X.2 else 0))) := by
  unfold wE; simp only [h]
theorem wE_ref {tc : Nat → ClassId} {ad : ADR} {X : XT} {k t n e : Nat} {a b : Int32} (h : kSh k = some (.inr (.inr (.inr (t, n, e))))) : wE tc ad X (k, a, b) = .inl (tc t, n, .inr (.inr (.inr (.inr (fun j => if j < n then some (ad e b (nI j)) else none))))) := by
  unfold wE; simp only [h]
theorem wV_len (ad : ADR) (X : XT) (k : Nat) (a b : Int32) (fs : List (Option Nat)) : (wV ad X k a b fs).length = fs.length := by unfold wV; simp
theorem wV_at (ad : ADR) (X : XT) (k : Nat) (a b : Int32) {fs : List (Option Nat)} {i : Nat} {f : Option Nat} (h : fs[i]? = some f) : (wV ad X k a b fs)[i]? = some (fV ad X k a b i f) := by
  have hi : i < fs.length := (List.getElem?_eq_some_iff.mp h).1
  unfold wV
  rw [List.getElem?_map, List.getElem?_range hi, Option.map_some, h]
  rfl
theorem wV_set (ad : ADR) (X : XT) (k : Nat) (a b x : Int32) {fs : List (Option Nat)} {i : Nat} (h : fs[i]? = some none) (hl : fs.length < 1000) : (wV ad X k a b fs).set i (.int x) = wV ad (xs X.1 k a b (nI i) x, X.2) k a b fs := by
  have hi : i < fs.length := (List.getElem?_eq_some_iff.mp h).1
  apply List.ext_getElem?
  intro j
  by_cases hj : j < fs.length
  · have hf : ∃ f, fs[j]? = some f := ⟨fs[j], List.getElem?_eq_getElem hj⟩
    obtain ⟨f, hf⟩ := hf
    rw [wV_at ad _ k a b hf]
    by_cases e : j = i
    · subst e
      rw [List.getElem?_set_self (by rw [wV_len]; exact hj)]
      rw [hf] at h
      cases h
      show _ = some (Value.int (xs X.1 k a b (nI j) x k a b (nI j)))
      rw [xs_self]
    · rw [List.getElem?_set_ne (fun q => e q.symm), wV_at ad _ k a b hf]
      cases f with
      | some k' => rfl
      | none =>
        show some (Value.int (X.1 k a b (nI j))) = some (Value.int (xs X.1 k a b (nI i) x k a b (nI j)))
        rw [xs_nj X.1 k a b x (fun q => e (nI_inj (by omega) (by omega) q))]
  · rw [List.getElem?_eq_none (by rw [List.length_set, wV_len]; omega), List.getElem?_eq_none (by rw [wV_len]; omega)]
theorem upd_row (X : XF) (k n : Nat) (a b x : Int32) {i : Int32} (hi : vp_in i n) (hn : n < 1000) : upd (fun j => if j < n then X k a b (nI j) else 0) i.toNatClampNeg x = (fun j => if j < n then xs X k a b i x k a b (nI j) else 0) := by
  obtain ⟨h1, h2, h3⟩ := vp_nat hi
  funext j
  unfold upd
  by_cases hj : j = i.toNatClampNeg
  · subst hj
    rw [if_pos rfl, if_pos h2, h1, xs_self]
  · rw [if_neg hj]
    by_cases hl : j < n
    · show (if j < n then X k a b (nI j) else 0) = (if j < n then xs X k a b i x k a b (nI j) else 0)
      rw [if_pos hl, if_pos hl, xs_nj]
      intro q
      rw [← h1] at q
      exact hj (nI_inj (by omega) h3 q)
    · show (if j < n then X k a b (nI j) else 0) = (if j < n then xs X k a b i x k a b (nI j) else 0)
      rw [if_neg hl, if_neg hl]
/-! locals -/
def LR (ad : ADR) (ls : Array Slot) (L : List AV) : Prop := ls.size = L.length ∧ lv_wf ls ∧ ∀ (i : Nat) (v : AV), L[i]? = some v → avc v = 1 → ls[i]? = some (.val (cv ad v))
def lvL (ad : ADR) (L : List AV) : List (Nat × Value) := (List.range L.length).filterMap fun i => match L[i]? with
  | some v => if avc v = 1 then some (i, cv ad v) else none
  | none => none
theorem lvL_mem {ad : ADR} {L : List AV} {i : Nat} {w : Value} : (i, w) ∈ lvL ad L ↔ ∃ v, L[i]? = some v ∧ avc v = 1 ∧ w = cv ad v := by
  unfold lvL
  rw [List.mem_filterMap]
  constructor
  · rintro ⟨j, -, hj⟩
    cases hv : L[j]? with
    | none => rw [hv] at hj; cases hj
    | some v =>
      rw [hv] at hj
      by_cases h1 : avc v = 1
      · simp only [h1, if_true, Option.some.injEq, Prod.mk.injEq] at hj
        obtain ⟨rfl, rfl⟩ := hj
        exact ⟨v, hv, h1, rfl⟩
      · simp [h1] at hj
  · rintro ⟨v, h1, h2, rfl⟩
    exact ⟨i, List.mem_range.mpr (List.getElem?_eq_some_iff.mp h1).1, by rw [h1]; simp [h2]⟩
theorem LR.has {ad : ADR} {ls : Array Slot} {L : List AV} (h : LR ad ls L) : lv_has ls L.length (lvL ad L) := by
  refine ⟨h.1, h.2.1, fun q hq => ?_⟩
  obtain ⟨v, h1, h2, h3⟩ := lvL_mem.mp (show (q.1, q.2) ∈ lvL ad L from hq)
  rw [h3]
  exact h.2.2 _ v h1 h2
def lvS (l : List (Nat × Value)) (i : Nat) (w : Value) : List (Nat × Value) := (i, w) :: l.filter (fun q => !(q.1 == i) && !(q.1 + 1 == i && q.2.category == 2))
theorem LR.set {ad : ADR} {ls' : Array Slot} {L : List AV} {i : Nat} {v : AV} (hi : i < L.length) (h' : lv_has ls' L.length (lvS (lvL ad L) i (cv ad v))) : LR ad ls' (L.set i v) := by
  refine ⟨by rw [List.length_set]; exact h'.1, h'.2.1, fun j u hj hu => ?_⟩
  by_cases e : j = i
  · subst e
    rw [List.getElem?_set_self hi] at hj
    cases hj
    exact h'.2.2 (j, cv ad v) List.mem_cons_self
  · rw [List.getElem?_set_ne (fun q => e q.symm)] at hj
    refine h'.2.2 (j, cv ad u) (List.mem_cons_of_mem _ (List.mem_filter.mpr ⟨lvL_mem.mpr ⟨u, hj, hu, rfl⟩, ?_⟩))
    have hc : (cv ad u).category = 1 := by rw [cv_cat]; exact hu
    simp [e, hc]
theorem set_vok {L : List AV} {i : Nat} {v : AV} (h : ∀ w ∈ L, vok w) (hv : vok v) : ∀ w ∈ L.set i v, vok w := by
  intro w hw
  rcases List.mem_or_eq_of_mem_set hw with h1 | h1
  · exact h w h1
  · rw [h1]; exact hv
theorem rs0_bad {L' S' : List AV} {X' : XT} {P : Prop} (h : rs0 = (L', S', X', P)) (hP : P) : False := by
  unfold rs0 at h
  cases h
  exact hP
theorem vcl_ok {ci : Nat} (h : ci < 9) : vwCl[ci]? = some (vC ci) ∧ (∀ w ∈ u_ws (vC ci).1 (vC ci).2.1 (vC ci).2.2, w ∈ lwG) ∧ (∃ ty0 : Nat → FieldType, ∀ k, k < (vC ci).2.2 → parseFieldDescriptor ((vC ci).2.1 k).2.2.1 = some (ty0 k)) ∧ (∀ a, a < (vC ci).2.2 → ∀ b, b < (vC ci).2.2 → a ≠ b → ((vC ci).2.1 a).2.1 ≠ ((vC ci).2.1 b).2.1) := by
  match ci, h with
  | 0, _ => exact ⟨rfl, fun w h => lwG_in (inX0 w h) (u_good w h), ⟨tyX0, tyX0_ok⟩, nmX0⟩
  | 1, _ => exact ⟨rfl, fun w h => lwG_in (inX1 w h) (u_good w h), ⟨tyX1, tyX1_ok⟩, nmX1⟩
  | 2, _ => exact ⟨rfl, fun w h => lwG_in (inX2 w h) (u_good w h), ⟨tyX2, tyX2_ok⟩, nmX2⟩
  | 3, _ => exact ⟨rfl, fun w h => lwG_in (inX3 w h) (u_good w h), ⟨tyX3, tyX3_ok⟩, nmX3⟩
  | 4, _ => exact ⟨rfl, fun w h => lwG_in (inX4 w h) (u_good w h), ⟨tyX4, tyX4_ok⟩, nmX4⟩
  | 5, _ => exact ⟨rfl, fun w h => lwG_in (inX5 w h) (u_good w h), ⟨tyX5, tyX5_ok⟩, nmX5⟩
  | 6, _ => exact ⟨rfl, fun w h => lwG_in (inX6 w h) (u_good w h), ⟨tyX6, tyX6_ok⟩, nmX6⟩
  | 7, _ => exact ⟨rfl, fun w h => lwG_in (inX7 w h) (u_good w h), ⟨tyX7, tyX7_ok⟩, nmX7⟩
  | 8, _ => exact ⟨rfl, fun w h => lwG_in (inX8 w h) (u_good w h), ⟨tyX8, tyX8_ok⟩, nmX8⟩
