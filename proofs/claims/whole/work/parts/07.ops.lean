theorem ids_lt {k : Nat} {a b : Int32} (h : (k, a, b) ∈ ids) : k < 44 := by
  have h0 : (ids.all fun q => decide (q.1 < 44)) = true := by decide +kernel
  simpa using List.all_eq_true.mp h0 _ h
theorem sR_k : ∀ q ∈ SRl, 51 ≤ q.2.2 ∧ q.2.2 < 53 := by decide +kernel
theorem minW : Jvm.Cond.methodLink RX6 73 Lib.Math.min.name ∈ lwG ∧ Jvm.Cond.static Lib.Math.min.name ∈ lwG ∧ Jvm.Cond.initialized "java/lang/Math" ∈ lwG ∧ Jvm.Cond.code Lib.Math.min.name Lib.Math.min.code 2 (some .int) ∈ lwG := by
  refine ⟨lwG_in ?_ rfl, lwG_in ?_ rfl, lwG_in ?_ rfl, lwG_in ?_ rfl⟩
  · exact List.mem_of_getElem? (i := 636) (by decide +kernel)
  · exact List.mem_of_getElem? (i := 637) (by decide +kernel)
  · exact List.mem_of_getElem? (i := 63) (by decide +kernel)
  · exact List.mem_of_getElem? (i := 638) (by decide +kernel)
theorem wE_neL {tc : Nat → ClassId} {ad : ADR} {X : XT} {x : Int64} {k n : Nat} {a b : Int32} (r : Nat × Int32 × Int32) (hm : r ∈ ids) (hm2 : (k, a, b) ∈ ids) (hr : r ≠ (k, a, b)) (hk : kSh k = some (.inr (.inr (.inl n)))) : wE tc ad (X.1, x) r = wE tc ad X r := by
  have h0 : (ids.all fun q => match kSh q.1 with | some (.inr (.inr (.inl _))) => decide (q = (43, 0, 0)) | _ => true) = true := by decide +kernel
  have h1 := List.all_eq_true.mp h0 _ hm2
  simp only [hk, decide_eq_true_eq] at h1
  unfold wE wV fV
  split
  · rfl
  · rfl
  · next n' hk' =>
    have h2 := List.all_eq_true.mp h0 _ hm
    simp only [hk', decide_eq_true_eq] at h2
    exact absurd (h2.trans h1.symm) hr
  · rfl
  · rfl
/-! one straight instruction -/
section Ops
variable {p : Program} {l : Launch} {e : Env} {R : Room} {s : State} {m : MethodId} {args : Array Value} {below : List Frame} {meth : Method} {c : Code} {cells slots : Nat} {Q : State → Prop} {y : Nat} {sc : SC} {tc : Nat → ClassId} {ad : ADR} {dC : Nat → ClassId} {dI : Nat → Nat → Nat} {A : Nat → Prop}
/-- what holds in a method's frame all along -/
def Cx (p : Program) (s : State) (m : MethodId) (args : Array Value) (meth : Method) (c : Code) (y : Nat) (sc : SC) (tc : Nat → ClassId) (ad : ADR) (dC : Nat → ClassId) (dI : Nat → Nat → Nat) (A : Nat → Prop) : Prop :=
  p.tables.exec = Jvm.exec ∧ c.code = mBy y ∧ c.maxLocals = mLo y ∧ meth.sig.returnType = mRt y ∧ meth.locks = false ∧ s.vm.findClass (ownS (mOw y)) = some m.cls ∧ (∀ w ∈ lwG, w.before args s = true) ∧ va_K (dC, dI) vwCl (tyW tc) s ∧ (∀ q, s.heap.size ≤ q → A q) ∧ Gl sc ad A s s.heap
def Wd (s : State) (tc : Nat → ClassId) (ad : ADR) (dC : Nat → ClassId) (dI : Nat → Nat → Nat) (A : Nat → Prop) (X : XT) (H : Heap) (locs : List Loc) : Prop := va_P (dC, dI) vwCl (wW tc ad X) H ∧ va_D A (wW tc ad X) ∧ va_S A s.heap H locs
def Lc (ad : ADR) (y : Nat) (ls : Array Slot) (L : List AV) : Prop := LR ad ls L ∧ L.length = mLo y ∧ ∀ v ∈ L, vok v
/-- from an abstract state on -/
def Ws (p : Program) (l : Launch) (e : Env) (R : Room) (s : State) (m : MethodId) (args : Array Value) (below : List Frame) (meth : Method) (c : Code) (cells slots : Nat) (Q : State → Prop) (y : Nat) (tc : Nat → ClassId) (ad : ADR) (dC : Nat → ClassId) (dI : Nat → Nat → Nat) (A : Nat → Prop) (pc : Nat) (L S : List AV) (X : XT) : Prop :=
  ∀ (ls : Array Slot) (H : Heap) (locs : List Loc), Wd s tc ad dC dI A X H locs → Lc ad y ls L → (∀ v ∈ S, vok v) → W p l e R s m args below meth c H locs cells slots Q (F0 m pc ls (S.map (cv ad)))
theorem vok_t {S : List AV} {v : AV} (h : ∀ w ∈ v :: S, vok w) : ∀ w ∈ S, vok w := fun w hw => h w (List.mem_cons_of_mem _ hw)
theorem vok_c {S : List AV} {v : AV} (hv : vok v) (h : ∀ w ∈ S, vok w) : ∀ w ∈ v :: S, vok w := fun w hw => (List.mem_cons.mp hw).elim (fun q => by rw [q]; exact hv) (h w)
theorem Lc.at {ls : Array Slot} {L : List AV} {i : Nat} {v : AV} (h : Lc ad y ls L) (hv : L[i]? = some v) (h1 : avc v = 1) : ls[i]? = some (.val (cv ad v)) := h.1.2.2 i v hv h1
theorem Lc.put {ls ls' : Array Slot} {L : List AV} {i : Nat} {v : AV} (h : Lc ad y ls L) (hi : i < L.length) (hv : vok v) (h' : lv_has ls' L.length (lvS (lvL ad L) i (cv ad v))) : Lc ad y ls' (L.set i v) := ⟨LR.set hi h', by rw [List.length_set]; exact h.2.1, set_vok h.2.2 hv⟩
set_option maxHeartbeats 4000000 in
theorem simOp (C0 : Cx p s m args meth c y sc tc ad dC dI A) (hR : cells ≤ R.cells ∧ slots ≤ R.slots ∧ 1 ≤ R.frames ∧ 60 ≤ R.locals) {pc : Nat} {op : OP} (ok : okO (mOw y) (mBy y) pc op = true) {L S L' S' : List AV} {X X' : XT} {P : Prop} (hx : sx sc op L S X = (L', S', X', P)) (hP : P)
    (kk : Ws p l e R s m args below meth c cells slots Q y tc ad dC dI A (pc + op.2.1) L' S' X') : Ws p l e R s m args below meth c cells slots Q y tc ad dC dI A pc L S X := by
  obtain ⟨x0, hb, hml, hr, hlk, hown, hts, hK, hA, hG⟩ := C0
  obtain ⟨ins, ln, i, ci, v⟩ := op
  intro ls H locs hW hL hS
  simp only [okO, Bool.and_eq_true, decide_eq_true_eq] at ok
  obtain ⟨hd, ok⟩ := ok
  cases ins
  case iconst n =>
    simp only [Bool.and_eq_true, decide_eq_true_eq] at ok
    obtain ⟨rfl, hv⟩ := ok
    cases hx
    exact lv_iconst x0 hb hd hv (kk ls H locs hW hL (vok_c trivial hS))
  case bipush n =>
    simp only [Bool.and_eq_true, decide_eq_true_eq] at ok
    obtain ⟨rfl, hv⟩ := ok
    cases hx
    exact lv_bipush x0 hb hd hv (kk ls H locs hW hL (vok_c trivial hS))
  case sipush n =>
    simp only [Bool.and_eq_true, decide_eq_true_eq] at ok
    obtain ⟨rfl, hv⟩ := ok
    cases hx
    exact lv_sipush x0 hb hd hv (kk ls H locs hW hL (vok_c trivial hS))
  case lconst n =>
    simp only [Bool.and_eq_true, decide_eq_true_eq] at ok
    obtain ⟨rfl, hv⟩ := ok
    cases hx
    exact lv_lconst x0 hb hd hv (kk ls H locs hW hL (vok_c trivial hS))
  case iload_n k =>
    simp only [Bool.and_eq_true, decide_eq_true_eq] at ok
    obtain ⟨rfl, hi⟩ := ok
    have hx : ldI L i S X = (L', S', X', P) := hx
    unfold ldI at hx
    split at hx
    · next x hv =>
      cases hx
      skip
      exact lv_iload_n x0 hb hd hi (hL.at hv rfl) (kk ls H locs hW hL (vok_c trivial hS))
    · exact (rs0_bad hx hP).elim
  case iload k =>
    simp only [Bool.and_eq_true, decide_eq_true_eq] at ok
    obtain ⟨rfl, hi⟩ := ok
    have hx : ldI L i S X = (L', S', X', P) := hx
    unfold ldI at hx
    split at hx
    · next x hv =>
      cases hx
      subst hi
      exact lv_iload x0 hb hd (hL.at hv rfl) (kk ls H locs hW hL (vok_c trivial hS))
    · exact (rs0_bad hx hP).elim
  case aload_n k =>
    simp only [Bool.and_eq_true, decide_eq_true_eq] at ok
    obtain ⟨rfl, hi⟩ := ok
    have hx : ldA L i S X = (L', S', X', P) := hx
    unfold ldA at hx
    split at hx
    · next x hv =>
      cases hx
      skip
      exact lv_aload_n x0 hb hd hi (hL.at hv rfl) (kk ls H locs hW hL (vok_c (hL.2.2 _ (List.mem_of_getElem? hv)) hS))
    · exact (rs0_bad hx hP).elim
  case aload k =>
    simp only [Bool.and_eq_true, decide_eq_true_eq] at ok
    obtain ⟨rfl, hi⟩ := ok
    have hx : ldA L i S X = (L', S', X', P) := hx
    unfold ldA at hx
    split at hx
    · next x hv =>
      cases hx
      subst hi
      exact lv_aload x0 hb hd (hL.at hv rfl) (kk ls H locs hW hL (vok_c (hL.2.2 _ (List.mem_of_getElem? hv)) hS))
    · exact (rs0_bad hx hP).elim
  case istore_n k =>
    simp only [Bool.and_eq_true, decide_eq_true_eq] at ok
    obtain ⟨rfl, hi⟩ := ok
    dsimp only [sx] at hx
    split at hx
    · next x S1 =>
      unfold stI at hx
      cases hx
      skip
      exact lv_istore_n (nL := L.length) (lv := lvL ad L) (lv' := lvS (lvL ad L) i (cv ad (.inl x))) x0 hb hd hi hL.1.has hP rfl (fun ls' h' => kk ls' H locs hW (hL.put hP trivial h') (vok_t hS))
    · exact (rs0_bad hx hP).elim
  case istore k =>
    simp only [Bool.and_eq_true, decide_eq_true_eq] at ok
    obtain ⟨rfl, hi⟩ := ok
    dsimp only [sx] at hx
    split at hx
    · next x S1 =>
      unfold stI at hx
      cases hx
      subst hi
      exact lv_istore (nL := L.length) (lv := lvL ad L) (lv' := lvS (lvL ad L) k (cv ad (.inl x))) x0 hb hd hL.1.has hP rfl (fun ls' h' => kk ls' H locs hW (hL.put hP trivial h') (vok_t hS))
    · exact (rs0_bad hx hP).elim
  case astore_n k =>
    simp only [Bool.and_eq_true, decide_eq_true_eq] at ok
    obtain ⟨rfl, hi⟩ := ok
    dsimp only [sx] at hx
    split at hx
    · next x S1 =>
      unfold stA at hx
      cases hx
      skip
      exact lv_astore_n (nL := L.length) (lv := lvL ad L) (lv' := lvS (lvL ad L) i (cv ad (.inr (.inr x)))) x0 hb hd hi hL.1.has hP rfl (fun ls' h' => kk ls' H locs hW (hL.put hP (hS _ List.mem_cons_self) h') (vok_t hS))
    · exact (rs0_bad hx hP).elim
  case astore k =>
    simp only [Bool.and_eq_true, decide_eq_true_eq] at ok
    obtain ⟨rfl, hi⟩ := ok
    dsimp only [sx] at hx
    split at hx
    · next x S1 =>
      unfold stA at hx
      cases hx
      subst hi
      exact lv_astore (nL := L.length) (lv := lvL ad L) (lv' := lvS (lvL ad L) k (cv ad (.inr (.inr x)))) x0 hb hd hL.1.has hP rfl (fun ls' h' => kk ls' H locs hW (hL.put hP (hS _ List.mem_cons_self) h') (vok_t hS))
    · exact (rs0_bad hx hP).elim
  case iinc k n =>
    simp only [Bool.and_eq_true, decide_eq_true_eq] at ok
    obtain ⟨⟨rfl, rfl⟩, hv⟩ := ok
    have hx : inc L k v S X = (L', S', X', P) := hx
    unfold inc at hx
    split at hx
    · next x hx1 =>
      cases hx
      have hi : k < L.length := (List.getElem?_eq_some_iff.mp hx1).1
      obtain ⟨j, hj⟩ := List.getElem?_of_mem (lvL_mem.mpr ⟨_, hx1, rfl, rfl⟩ : (k, Value.int x) ∈ lvL ad L)
      exact lv_iinc (nL := L.length) (lv := lvL ad L) (lv' := lvS (lvL ad L) k (cv ad (.inl (x + v)))) x0 hb hd hL.1.has hj (by rw [hv]) hi rfl (fun ls' h' => kk ls' H locs hW (hL.put hi trivial h') hS)
    · exact (rs0_bad hx hP).elim
  case getfield ix =>
    simp only [Bool.and_eq_true, decide_eq_true_eq] at ok
    obtain ⟨⟨rfl, hf⟩, hv⟩ := ok
    dsimp only [sx] at hx
    split at hx
    · next k a b S1 =>
      unfold gtF at hx
      split at hx
      · next cj fs hk =>
        have hc := kObj hk
        obtain ⟨hc1, hc2, -, -⟩ := vcl_ok hc.1
        have hm : (k, a, b) ∈ ids := vok_in (hS _ List.mem_cons_self) hk
        obtain ⟨q0, hq0⟩ := List.getElem?_of_mem hm
        have hat := wW_at tc ad X hq0
        rw [wE_obj hk] at hat
        split at hx
        · next k' hf1 =>
          cases hx
          subst hP
          have hlt := (fR_lt _ hf).2
          exact va_get (D := (dC, dI)) (ref := ((vC cj).2.1 i).1) x0 hb hts hc2 hown hK hW.1 q0 hat hc1 i hlt (hts _ (lwG_in (fW_ok _ hf) rfl)) (fun _ h9 => h9) (show (wV ad X k a b fs)[i]? = some (.ref (ad k' a b)) from wV_at ad X k a b hf1) hd (kk ls H locs hW hL (vok_c (Or.inl (ids_fld hm hk hf1)) (vok_t hS)))
        · next hf1 =>
          cases hx
          subst hP
          have hlt := (fR_lt _ hf).2
          have hg : (wV ad X k a b fs)[i]? = some (.int (X.1 k a b (nI i))) := wV_at ad X k a b hf1
          rw [hv] at hg
          exact va_get (D := (dC, dI)) (ref := ((vC cj).2.1 i).1) x0 hb hts hc2 hown hK hW.1 q0 hat hc1 i hlt (hts _ (lwG_in (fW_ok _ hf) rfl)) (fun _ h9 => h9) hg hd (kk ls H locs hW hL (vok_c trivial (vok_t hS)))
        · exact (rs0_bad hx hP).elim
      · exact (rs0_bad hx hP).elim
    · exact (rs0_bad hx hP).elim
  case putfield ix =>
    simp only [Bool.and_eq_true, decide_eq_true_eq] at ok
    obtain ⟨⟨⟨⟨rfl, hf⟩, hv⟩, hI⟩, hfin⟩ := ok
    dsimp only [sx] at hx
    split at hx
    · next x k a b S1 =>
      unfold ptF at hx
      split at hx
      · next cj fs hk =>
        have hc := kObj hk
        obtain ⟨hc1, hc2, ⟨ty0, hty⟩, hnm⟩ := vcl_ok hc.1
        have hm : (k, a, b) ∈ ids := vok_in (hS _ (List.mem_cons_of_mem _ List.mem_cons_self)) hk
        obtain ⟨q0, hq0⟩ := List.getElem?_of_mem hm
        have hat := wW_at tc ad X hq0
        rw [wE_obj hk] at hat
        split at hx
        · next hf1 =>
          cases hx
          subst hP
          have hlt := (fR_lt _ hf).2
          have hset := wW_set (tc := tc) (ad := ad) (X := X) (Y := (xs X.1 k a b v x, X.2)) hW.2.1 hq0 (fun r _ hr => wE_ne (xs_ne X.1 v x hr) rfl)
          rw [wE_obj hk] at hset
          have hvs := wV_set ad X k a b x hf1 hc.2.2
          rw [hv] at hvs
          rw [← hvs] at hset
          refine va_put (D := (dC, dI)) (ref := ((vC cj).2.1 i).1) (ty := .int) (v := .int x) x0 hb hts hc2 ty0 hty hnm hown hK hW.1 hW.2.1 hW.2.2 q0 hat hc1 i hlt (hts _ (lwG_in (fW_ok _ hf) rfl)) (fun _ h9 => h9) hfin (by rw [hI]; decide +kernel) rfl rfl (by rw [wV_len]; exact (List.getElem?_eq_some_iff.mp hf1).1) hd (fun H1 locs1 hP1 hD1 hS1 => ?_)
          rw [hset] at hP1 hD1
          exact kk ls H1 locs1 ⟨hP1, hD1, hS1⟩ hL (vok_t (vok_t hS))
        · exact (rs0_bad hx hP).elim
      · exact (rs0_bad hx hP).elim
    · exact (rs0_bad hx hP).elim
  case getstatic ix =>
    simp only [Bool.and_eq_true, decide_eq_true_eq] at ok
    obtain ⟨rfl, hf⟩ := ok
    cases hx
    have hk := sR_k _ hf
    have hz := hG.2.2.2.1 i hk.1 hk.2
    have hw := hts _ (lwG_in (sW_ok _ hf) rfl)
    exact va_gets x0 hb hz hW.2.2 hown hw (fun _ h9 => h9) hd (kk ls H locs hW hL (vok_c (Or.inr ⟨hk.1, rfl, rfl⟩) hS))
  case iaload  =>
    simp only [decide_eq_true_eq] at ok
    subst ok
    dsimp only [sx] at hx
    split at hx
    · next j k a b S1 =>
      have hvk : vok (.inr (.inr (k, a, b))) := hS _ (List.mem_cons_of_mem _ List.mem_cons_self)
      unfold ldX at hx
      split at hx
      · next n hk =>
        cases hx
        obtain ⟨q0, hq0⟩ := List.getElem?_of_mem (vok_in hvk hk)
        have hat := wW_at tc ad X hq0
        rw [wE_int hk] at hat
        have hn := vp_nat hP
        refine va_iald (D := (dC, dI)) (tys := tyW tc) x0 hb hK hW.1 q0 0 hat rfl hP hd ?_
        have e : (if j.toNatClampNeg < n then X.1 k a b (nI j.toNatClampNeg) else 0) = X.1 k a b j := by
          rw [if_pos hn.2.1, hn.1]
        rw [e]
        exact kk ls H locs hW hL (vok_c trivial (vok_t (vok_t hS)))
      · exact (rs0_bad hx hP).elim
      · next hk =>
        cases hx
        obtain ⟨h50, hin⟩ := hP
        have hlt : k < 54 := by
          rcases Nat.lt_or_ge k 54 with q | q
          · exact q
          · have h0 : roN sc k = 0 := by
              unfold roN
              split <;> first | omega | rfl
            rw [h0] at hin
            exact absurd (Or.inr (Nat.zero_le _)) hin
        rcases hvk with hvk | ⟨-, rfl, rfl⟩
        · have := ids_lt hvk
          omega
        · exact va_ti x0 hb (hG.2.2.2.2.1 k h50 hlt) hW.2.2 hin rfl hd (kk ls H locs hW hL (vok_c trivial (vok_t (vok_t hS))))
    · exact (rs0_bad hx hP).elim
  case iastore  =>
    simp only [decide_eq_true_eq] at ok
    subst ok
    dsimp only [sx] at hx
    split at hx
    · next x j k a b S1 =>
      have hvk : vok (.inr (.inr (k, a, b))) := hS _ (List.mem_cons_of_mem _ (List.mem_cons_of_mem _ List.mem_cons_self))
      unfold stX at hx
      split at hx
      · next n hk =>
        cases hx
        obtain ⟨q0, hq0⟩ := List.getElem?_of_mem (vok_in hvk hk)
        have hat := wW_at tc ad X hq0
        rw [wE_int hk] at hat
        have hset := wW_set (tc := tc) (ad := ad) (X := X) (Y := (xs X.1 k a b j x, X.2)) hW.2.1 hq0 (fun r _ hr => wE_ne (xs_ne X.1 j x hr) rfl)
        rw [wE_int hk] at hset
        refine va_iast (D := (dC, dI)) (tys := tyW tc) x0 hb hK hW.1 hW.2.1 hW.2.2 q0 0 hat rfl hP hd (fun H1 locs1 hP1 hD1 hS1 => ?_)
        rw [upd_row X.1 k n a b x hP (kInt hk)] at hP1 hD1
        dsimp only at hset
        rw [hset] at hP1 hD1
        exact kk ls H1 locs1 ⟨hP1, hD1, hS1⟩ hL (vok_t (vok_t (vok_t hS)))
      · exact (rs0_bad hx hP).elim
    · exact (rs0_bad hx hP).elim
  case aaload  =>
    simp only [decide_eq_true_eq] at ok
    subst ok
    dsimp only [sx] at hx
    split at hx
    · next j k a b S1 =>
      have hvk : vok (.inr (.inr (k, a, b))) := hS _ (List.mem_cons_of_mem _ List.mem_cons_self)
      unfold ldR at hx
      split at hx
      · next t n e hk =>
        cases hx
        have hm := vok_in hvk hk
        obtain ⟨q0, hq0⟩ := List.getElem?_of_mem hm
        have hat := wW_at tc ad X hq0
        rw [wE_ref hk] at hat
        have hn := vp_nat hP
        have ht : ∃ ty : FieldType, (tyW tc)[t]? = some (tc t, ty) ∧ ty.isReference = true := by
          rcases (kRef hk).1 with rfl | rfl
          · exact ⟨.array .int, rfl, rfl⟩
          · exact ⟨.object "GroupTables$Group", rfl, rfl⟩
        obtain ⟨ty, ht1, ht2⟩ := ht
        refine W.aald (v := .ref (ad e b j)) (ty := ty) x0 hb (hW.1 q0 _ hat) ((hK.2 t _ ht1).1 n (fun z => va_rf (if z < n then some (ad e b (nI z)) else none))) ht2 (fun q => by cases q) (by show ¬ (j < 0 ∨ (arrV _ _ _).slots.size ≤ _); rw [arrV_size]; exact hP) (by show (arrV _ _ _).slots[_]? = _; rw [arrV_read _ _ hn.2.1]; show some (va_rf (if j.toNatClampNeg < n then some (ad e b (nI j.toNatClampNeg)) else none)) = _; rw [if_pos hn.2.1, hn.1]; rfl) rfl rfl hd ?_
        exact kk ls H locs hW hL (vok_c (Or.inl (by rw [← hn.1]; exact ids_el hm hk hn.2.1)) (vok_t (vok_t hS)))
      · exact (rs0_bad hx hP).elim
    · exact (rs0_bad hx hP).elim
  case laload  =>
    simp only [decide_eq_true_eq] at ok
    subst ok
    dsimp only [sx] at hx
    split at hx
    · next j k a b S1 =>
      have hvk : vok (.inr (.inr (k, a, b))) := hS _ (List.mem_cons_of_mem _ List.mem_cons_self)
      unfold ldL at hx
      split at hx
      · next n hk =>
        cases hx
        obtain ⟨hP, rfl⟩ := hP
        obtain ⟨q0, hq0⟩ := List.getElem?_of_mem (vok_in hvk hk)
        have hat := wW_at tc ad X hq0
        rw [wE_long hk] at hat
        have hn := vp_nat hP
        refine va_lald (D := (dC, dI)) (tys := tyW tc) x0 hb hK hW.1 q0 3 hat rfl hP hd ?_
        have e : (if j.toNatClampNeg = 0 then X.2 else 0) = X.2 := if_pos (by omega)
        rw [e]
        exact kk ls H locs hW hL (vok_c trivial (vok_t (vok_t hS)))
      · exact (rs0_bad hx hP).elim
    · exact (rs0_bad hx hP).elim
  case lastore  =>
    simp only [decide_eq_true_eq] at ok
    subst ok
    dsimp only [sx] at hx
    split at hx
    · next x j k a b S1 =>
      have hvk : vok (.inr (.inr (k, a, b))) := hS _ (List.mem_cons_of_mem _ (List.mem_cons_of_mem _ List.mem_cons_self))
      unfold stL at hx
      split at hx
      · next n hk =>
        cases hx
        obtain ⟨hP, rfl⟩ := hP
        obtain ⟨q0, hq0⟩ := List.getElem?_of_mem (vok_in hvk hk)
        have hat := wW_at tc ad X hq0
        rw [wE_long hk] at hat
        have hn := vp_nat hP
        have hset := wW_set (tc := tc) (ad := ad) (X := X) (Y := (X.1, x)) hW.2.1 hq0 (fun r hm hr => wE_neL r hm (vok_in hvk hk) hr hk)
        rw [wE_long hk] at hset
        refine va_last (D := (dC, dI)) (tys := tyW tc) x0 hb hK hW.1 hW.2.1 hW.2.2 q0 3 hat rfl hP hd (fun H1 locs1 hP1 hD1 hS1 => ?_)
        have e : vp_updL (fun j => if j = 0 then X.2 else 0) j.toNatClampNeg x = (fun j => if j = 0 then x else 0) := by
          funext z
          unfold vp_updL
          have hj : j.toNatClampNeg = 0 := by omega
          rw [hj]
          by_cases hz : z = 0 <;> simp [hz]
        rw [e] at hP1 hD1
        dsimp only at hset
        rw [hset] at hP1 hD1
        exact kk ls H1 locs1 ⟨hP1, hD1, hS1⟩ hL (vok_t (vok_t (vok_t hS)))
      · exact (rs0_bad hx hP).elim
    · exact (rs0_bad hx hP).elim
  case arraylength  =>
    simp only [decide_eq_true_eq] at ok
    subst ok
    dsimp only [sx] at hx
    split at hx
    · next k a b S1 =>
      have hvk : vok (.inr (.inr (k, a, b))) := hS _ List.mem_cons_self
      cases hx
      subst hP
      rcases hvk with hvk | ⟨-, rfl, rfl⟩
      · have := ids_lt hvk
        omega
      · exact va_tlen x0 hb (hG.2.2.2.2.1 53 (by decide) (by decide)) hW.2.2 rfl hd (kk ls H locs hW hL (vok_c trivial (vok_t hS)))
    · exact (rs0_bad hx hP).elim
  case dup  =>
    simp only [decide_eq_true_eq] at ok
    subst ok
    dsimp only [sx] at hx
    split at hx
    · next x S1 =>
      rcases x with x | x | x
      · cases hx
        exact lv_dup x0 hb hd rfl (kk ls H locs hW hL (vok_c trivial hS))
      · exact (rs0_bad hx hP).elim
      · cases hx
        exact lv_dup x0 hb hd rfl (kk ls H locs hW hL (vok_c (hS _ List.mem_cons_self) hS))
    · exact (rs0_bad hx hP).elim
  case dup2  =>
    simp only [decide_eq_true_eq] at ok
    subst ok
    dsimp only [sx] at hx
    split at hx
    · next x w S1 =>
      rcases x with x | x | x
      · rcases w with w | w | w
        · cases hx
          exact lv_dup2_11 x0 hb hd rfl rfl (kk ls H locs hW hL (vok_c trivial (vok_c trivial hS)))
        · exact (rs0_bad hx hP).elim
        · cases hx
          exact lv_dup2_11 x0 hb hd rfl rfl (kk ls H locs hW hL (vok_c trivial (vok_c (hS _ (List.mem_cons_of_mem _ List.mem_cons_self)) hS)))
      · exact (rs0_bad hx hP).elim
      · exact (rs0_bad hx hP).elim
    · exact (rs0_bad hx hP).elim
  case i2l  =>
    simp only [decide_eq_true_eq] at ok
    subst ok
    dsimp only [sx] at hx
    split at hx
    · next x S1 =>
      cases hx
      exact lv_i2l x0 hb hd rfl (kk ls H locs hW hL (vok_c trivial (vok_t hS)))
    · exact (rs0_bad hx hP).elim
  case ineg  =>
    simp only [decide_eq_true_eq] at ok
    subst ok
    dsimp only [sx] at hx
    split at hx
    · next x S1 =>
      cases hx
      exact lv_ineg x0 hb hd (kk ls H locs hW hL (vok_c trivial (vok_t hS)))
    · exact (rs0_bad hx hP).elim
  case iadd  =>
    simp only [decide_eq_true_eq] at ok
    subst ok
    dsimp only [sx] at hx
    split at hx
    · next w x S1 =>
      cases hx
      exact lv_iadd x0 hb hd (kk ls H locs hW hL (vok_c trivial (vok_t (vok_t hS))))
    · exact (rs0_bad hx hP).elim
  case isub  =>
    simp only [decide_eq_true_eq] at ok
    subst ok
    dsimp only [sx] at hx
    split at hx
    · next w x S1 =>
      cases hx
      exact lv_isub x0 hb hd (kk ls H locs hW hL (vok_c trivial (vok_t (vok_t hS))))
    · exact (rs0_bad hx hP).elim
  case imul  =>
    simp only [decide_eq_true_eq] at ok
    subst ok
    dsimp only [sx] at hx
    split at hx
    · next w x S1 =>
      cases hx
      exact lv_imul x0 hb hd (kk ls H locs hW hL (vok_c trivial (vok_t (vok_t hS))))
    · exact (rs0_bad hx hP).elim
  case iand  =>
    simp only [decide_eq_true_eq] at ok
    subst ok
    dsimp only [sx] at hx
    split at hx
    · next w x S1 =>
      cases hx
      exact lv_iand x0 hb hd (kk ls H locs hW hL (vok_c trivial (vok_t (vok_t hS))))
    · exact (rs0_bad hx hP).elim
  case ior  =>
    simp only [decide_eq_true_eq] at ok
    subst ok
    dsimp only [sx] at hx
    split at hx
    · next w x S1 =>
      cases hx
      exact lv_ior x0 hb hd (kk ls H locs hW hL (vok_c trivial (vok_t (vok_t hS))))
    · exact (rs0_bad hx hP).elim
  case ishl  =>
    simp only [decide_eq_true_eq] at ok
    subst ok
    dsimp only [sx] at hx
    split at hx
    · next w x S1 =>
      cases hx
      exact lv_ishl x0 hb hd (kk ls H locs hW hL (vok_c trivial (vok_t (vok_t hS))))
    · exact (rs0_bad hx hP).elim
  case ishr  =>
    simp only [decide_eq_true_eq] at ok
    subst ok
    dsimp only [sx] at hx
    split at hx
    · next w x S1 =>
      cases hx
      exact lv_ishr x0 hb hd (kk ls H locs hW hL (vok_c trivial (vok_t (vok_t hS))))
    · exact (rs0_bad hx hP).elim
  case idiv  =>
    simp only [decide_eq_true_eq] at ok
    subst ok
    dsimp only [sx] at hx
    split at hx
    · next w x S1 =>
      cases hx
      exact lv_idiv x0 hb hd hP (kk ls H locs hW hL (vok_c trivial (vok_t (vok_t hS))))
    · exact (rs0_bad hx hP).elim
  case irem  =>
    simp only [decide_eq_true_eq] at ok
    subst ok
    dsimp only [sx] at hx
    split at hx
    · next w x S1 =>
      cases hx
      exact lv_irem x0 hb hd hP (kk ls H locs hW hL (vok_c trivial (vok_t (vok_t hS))))
    · exact (rs0_bad hx hP).elim
  case lcmp  =>
    simp only [decide_eq_true_eq] at ok
    subst ok
    dsimp only [sx] at hx
    split at hx
    · next w x S1 =>
      cases hx
      exact W.lcmp x0 hb hd (kk ls H locs hW hL (vok_c trivial (vok_t (vok_t hS))))
    · exact (rs0_bad hx hP).elim
  case invokestatic ix =>
    simp only [Bool.and_eq_true, decide_eq_true_eq] at ok
    obtain ⟨⟨rfl, hc⟩, hi⟩ := ok
    dsimp only [sx] at hx
    split at hx
    · next w x S1 =>
      cases hx
      obtain ⟨m1, m2, m3, m4⟩ := minW
      rw [hc] at hown
      subst hi
      exact va_mmin (own := RX6) x0 hb (by rw [hml, hL.1.1, hL.2.1]) hown (hts _ m1) (hts _ m2) (hts _ m3) (hts _ m4) hR.2.2.1 (by rw [cv_cats]; have := hR.2.2.2; omega) hR.1 hR.2.1 hd (kk ls H locs hW hL (vok_c trivial (vok_t (vok_t hS))))
    · exact (rs0_bad hx hP).elim
  all_goals exact (rs0_bad hx hP).elim
end Ops
