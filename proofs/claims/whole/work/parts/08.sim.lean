/-! a static method of a nest mate (pasted: kit/laws, EXCEPTIONS) -/
section
variable {p : Program} {l : Launch} {e : Env} {R : Room} {s : State} {m : MethodId} {args : Array Value} {below : List Frame} {meth : Method} {c : Code} {H : Heap} {locs : List Loc} {cells slots : Nat}
variable {T : State}
theorem vx_callSN (X : Stand p l e R s m args below meth c T locs cells slots) (hexec : p.tables.exec = Jvm.exec) {own : String} {index : Nat} {host : String} {y : MethodName} {bytes : ByteArray} {maxL : Nat} {ret : Option FieldType}
    (hown : s.vm.findClass own = some m.cls) (hlink : (Cond.methodLinkNest own index y host).before args s = true) (hstat : (Cond.static y).before args s = true) (hinit : (Cond.initialized y.cls).before args s = true)
    (hcode : (Cond.code y bytes maxL ret).before args s = true) (hy : y.cls ≠ "java/lang/invoke/MethodHandle" ∧ y.cls ≠ "java/lang/invoke/VarHandle")
    {W : Nat} {Pre : Pt → Array Value → Prop} {Post : Pt → Array Value → Option Value → Pt → Prop} {PostX : Pt → Array Value → Addr → Pt → Prop} (hK : vx_Back l R p e below s args y 3 W Pre Post PostX)
    {g : JFrame} (hg : g.method = m) (hsize : g.locals.size = c.maxLocals) {argsL rest : List Value} (hlen : ∀ sig, parseMethodDescriptor y.desc = some sig → argsL.length = sig.parameters.length)
    (hstack : g.stack = argsL.reverse ++ rest) (hW : 2 * g.monitorRoom + (rest.map fun v => v.category).sum ≤ W) (hdg : decode c.code g.pc = .ok (.invokestatic index, 3))
    (hpre : ∀ vm₁, s.WarmedH vm₁ → Pre ⟨T.setVm vm₁, locs, cells, slots⟩ argsL.toArray) :
    (∃ (v : Option Value) (vm₁ : Vm) (B : Pt), s.WarmedH vm₁ ∧ Stand p l e R s m args below meth c B.U B.locs B.cells B.slots ∧ Post ⟨T.setVm vm₁, locs, cells, slots⟩ argsL.toArray v B ∧
      ∀ target, Steps p.tables e below (B.U.setTop { g with pc := g.pc + 3, stack := v.toList ++ rest }) target → Steps p.tables e below (T.setTop g) target) ∨
    (∃ (q : Addr) (vm₁ : Vm) (B : Pt), s.WarmedH vm₁ ∧ Stand p l e R s m args below meth c B.U B.locs B.cells B.slots ∧ PostX ⟨T.setVm vm₁, locs, cells, slots⟩ argsL.toArray q B ∧
      Steps p.tables e below (T.setTop g) ((B.U.setTop { g with stack := rest }).pushFrame (.throwing q))) := by
  obtain ⟨mk, hnamed⟩ := Cond.code_named hcode
  obtain ⟨methM, cM, hmethM, -, -, -, -, -, -, hsigM⟩ := Cond.code_spec hnamed hcode
  have hstatic : methM.isStatic = true := Cond.static_spec hnamed hmethM hstat
  obtain ⟨kP, hkP, -⟩ := className_of_methodNamed hnamed
  have hinitP : kP.init = .initialized := Cond.initialized_spec (findClass_of_methodNamed hnamed) hkP hinit
  obtain ⟨vm₁, X₁, hstep₁⟩ := X.invokestaticNest hexec hown hlink hnamed hmethM hstatic hkP hinitP hy (g := g) hg (argsL := argsL) (rest := rest) (hlen _ hsigM) hstack hdg
  rcases hK m meth c ⟨T.setVm vm₁, locs, cells, slots⟩ { g with stack := rest } (.invokestatic index) mk argsL.toArray X₁ hg hsize hdg hW (X₁.named hnamed) (hpre vm₁ X₁.warmed) with ⟨v, B, X', hpost, hsteps⟩ | ⟨q, B, X', hpost, hsteps⟩
  · exact Or.inl ⟨v, vm₁, B, X₁.warmed, X', hpost, fun target h => hstep₁ _ fun acts => by rw [doInvoke_state]; exact hsteps.trans h⟩
  · exact Or.inr ⟨q, vm₁, B, X₁.warmed, X', hpost, hstep₁ _ fun acts => by rw [doInvoke_state]; exact hsteps⟩
theorem vx_runSN {y : MethodName} {bytes cc : ByteArray} {maxL nL mc ms n index : Nat} {ret : Option FieldType} {ws : List Cond} {rm : Room} {Pc : Array Value → State → Prop} {Qc : Array Value → State → Outcome → State → Prop} {XC : String → State → State → Prop} {free : Addr → Prop} {Ts : List Cond} {own host : String} {As rest : List Value} {g : JFrame}
    (S : CallFix p m c cc nL s args Ts own) (hM : vx_Met l y ws rm Pc Qc XC mc ms free) (cw : va_CN R s args own index y host bytes maxL ret ws rm mc ms n ∧ (Cond.static y).before args s = true ∧ True) (hp : PreS s H Pc As)
    (hg : g.method = m) (hn : As.length = n) (hsize : g.locals.size = nL) (hstack : g.stack = As.reverse ++ rest) (hW : 2 * g.monitorRoom + (rest.map fun v => v.category).sum ≤ 8) (hdg : decode cc g.pc = .ok (.invokestatic index, 3)) (hf : cells + mc ≤ R.cells ∧ slots + ms ≤ R.slots) :
    vx_Run p l e R s m args below meth c H locs cells slots mc ms g rest (Qc As.toArray) XC free := by
  obtain ⟨⟨⟨hrc, hrs, hfr, hlo, hws, hcw⟩, hcode, hini, hy, hlen, hl⟩, hx1, hx2⟩ := cw
  have hK : vx_Back l R p e below s args y 3 8 (PreOf R mc ms Pc) (PostOf Qc mc ms free) (vx_Post XC mc ms free) := vx_back (bytes := bytes) (maxL := maxL) (ret := ret) hM hp.1 hrc hrs hfr hlo hws hcw (fun a' U hW => word_at hW (Or.inl (by first | rfl | simp [Cond.onTables, Cond.keeps, Cond.steady])) hini)
  obtain ⟨hx, hb, hml, ho, -⟩ := S
  have hPc := hp.2
  intro T hT X
  rcases vx_callSN X hx (bytes := bytes) (maxL := maxL) (ret := ret) ho hl hx1 hini hcode hy hK hg (hsize.trans hml.symm) (argsL := As) (rest := rest) (fun sig h => hn.trans (hlen sig h)) hstack hW (by rw [hb]; exact hdg)
    (fun vm₁ hW₁ => ⟨hf.1, hf.2, hPc (T.setVm vm₁) hT hW₁⟩) with ⟨v, vm₁, ⟨U', l2, c2, s2⟩, hW₁, X', ⟨g', mk, t, L, e1, e2, hq, h1, hL, h2, h3⟩, st⟩ | ⟨q, vm₁, ⟨U', l2, c2, s2⟩, hW₁, X', ⟨g', mk, t, L, E, ce, e1, e2, hq, hce, hcv, hcl, h1, hL, h2, h3⟩, st⟩
  · dsimp only [Pt.U, Pt.locs, Pt.cells, Pt.slots] at X' e1 e2 h1 h2 h3 st
    subst h1; subst h2; subst h3
    exact Or.inl ⟨v, (T.setVm vm₁).calling g' mk As.toArray, t, U', L, hT, X', hL, e1, e2, hq, st⟩
  · dsimp only [Pt.U, Pt.locs, Pt.cells, Pt.slots] at X' e1 e2 h1 h2 h3 st hcl
    subst h1; subst h2; subst h3
    exact Or.inr ⟨q, (T.setVm vm₁).calling g' mk As.toArray, t, U', L, E, ce, hT, X', hL, e1, e2, hq, hce, hcv, vx_cls hW₁ hcl, st⟩
end
/-! stretches, calls, returns, throws -/
def rg (ad : ADR) (sz : Nat) : Nat → Prop := fun q => (∃ r ∈ ids, ad r.1 r.2.1 r.2.2 = q) ∨ sz ≤ q
def wsY (y : Nat) : List Jvm.Cond := mCw y :: lwG
def rmY (d k : Nat) : Room := { frames := d + 8, cells := k, slots := 6 * k, locals := 60 * d + 200 }
def cP (sc : SC) (tc : Nat → ClassId) (ad : ADR) (dC : Nat → ClassId) (dI : Nat → Nat → Nat) (X : XT) (sz : Nat) (U : State) : Prop := U.heap.size = sz ∧ va_P (dC, dI) vwCl (wW tc ad X) U.heap ∧ va_K (dC, dI) vwCl (tyW tc) U ∧ va_D (fun _ => True) (wW tc ad X) ∧ Gl sc ad (rg ad sz) U U.heap
def cB (tc : Nat → ClassId) (ad : ADR) (dC : Nat → ClassId) (dI : Nat → Nat → Nat) (Z : XT) (A : Nat → Prop) (st t : State) : Prop := va_P (dC, dI) vwCl (wW tc ad Z) t.heap ∧ va_F A st t
def cQ (tc : Nat → ClassId) (ad : ADR) (dC : Nat → ClassId) (dI : Nat → Nat → Nat) (o : OUT) (Z : XT) (A : Nat → Prop) : Array Value → State → Outcome → State → Prop := fun _ st oc t => (∃ v : Option AV, o = .inl v ∧ (∀ w, v = some w → vok w) ∧ oc = .returned (v.map (cv ad))) ∧ cB tc ad dC dI Z A st t
def cX (tc : Nat → ClassId) (ad : ADR) (dC : Nat → ClassId) (dI : Nat → Nat → Nat) (o : OUT) (Z : XT) (A : Nat → Prop) : String → State → State → Prop := fun E st t => (∃ x : Nat, o = .inr x ∧ x < 3 ∧ E = exN x) ∧ cB tc ad dC dI Z A st t
/-- the contract of a run of the method y -/
def Ct (l : Launch) (sc : SC) (tc : Nat → ClassId) (ad : ADR) (dC : Nat → ClassId) (dI : Nat → Nat → Nat) (d y : Nat) (as : List AV) (X : XT) (o : OUT) (Z : XT) (k : Nat) : Prop :=
  ∀ sz : Nat, vx_Met l (mNm y) (wsY y) (rmY d k) (va_Pc (as.map (cv ad)) (cP sc tc ad dC dI X sz)) (cQ tc ad dC dI o Z (rg ad sz)) (cX tc ad dC dI o Z (rg ad sz)) k (6 * k) (rg ad sz)
theorem mCw_good (y : Nat) : goodWord (mCw y) = true := by
  unfold mCw
  split <;> rfl
theorem good_lwG {ws : List Jvm.Cond} (h : ∀ w ∈ ws, w ∈ lwG) : GoodIn lwG ws := fun w hw => ⟨h w hw, good_of_word (List.mem_filter.mp (h w hw)).2⟩
theorem wsY_in {y : Nat} (hy : y < 168) : ∀ w ∈ wsY y, w ∈ lwG := fun w hw => (List.mem_cons.mp hw).elim (fun q => by rw [q]; exact lwG_in (mCw_ok y hy) (mCw_good y)) id
def mDs (z : Nat) : Bool := decide ((parseMethodDescriptor (mNm z).desc).map (fun d => d.parameters.length) = some (if (mRc z).isSome = true then mNa z - 1 else mNa z)) && decide ((mNm z).cls ≠ "java/lang/invoke/MethodHandle") && decide ((mNm z).cls ≠ "java/lang/invoke/VarHandle") && plainName (mNm z).cls && decide (mLo z ≤ 20) && decide (mNa z ≤ mLo z) && (match mRc z with | some ci => decide (ci < 9) && decide ((vC ci).1 = (mNm z).cls) && decide (1 ≤ mNa z) | none => true) && decide (ownS (mOw z) = (mNm z).cls) && decide (sPc z 0 = some 0)
theorem mDs_ok : ∀ z, z < 168 → mDs z = true := by decide +kernel
theorem cP_blind {sc : SC} {tc : Nat → ClassId} {ad : ADR} {dC : Nat → ClassId} {dI : Nat → Nat → Nat} {X : XT} {sz : Nat} {as : List Value} : FrameBlind (va_Pc as (cP sc tc ad dC dI X sz)) := by
  intro a U g mk h
  obtain ⟨h1, h2, h3, h4, h5, h6⟩ := h
  exact ⟨h1, h2, h3, va_K.moved (u := U) (U := U.calling g mk a) (Vm.Alike.refl U.vm) h4, h5, Gl.same (u := U) rfl h6⟩
section Sims
variable {p : Program} {l : Launch} {e : Env} {R : Room} {s : State} {m : MethodId} {args : Array Value} {below : List Frame} {meth : Method} {c : Code} {cells slots : Nat} {Q : State → Prop} {y : Nat} {sc : SC} {tc : Nat → ClassId} {ad : ADR} {dC : Nat → ClassId} {dI : Nat → Nat → Nat} {A : Nat → Prop}
theorem simOps (C0 : Cx p s m args meth c y sc tc ad dC dI A) (hR : cells ≤ R.cells ∧ slots ≤ R.slots ∧ 1 ≤ R.frames ∧ 60 ≤ R.locals) : ∀ (ops : List OP) {pc : Nat} {L S L' S' : List AV} {X X' : XT} {P : Prop}, okOs (mOw y) (mBy y) pc ops = true → sxs sc ops L S X = (L', S', X', P) → P →
    Ws p l e R s m args below meth c cells slots Q y tc ad dC dI A (pcE pc ops) L' S' X' → Ws p l e R s m args below meth c cells slots Q y tc ad dC dI A pc L S X := by
  intro ops
  induction ops with
  | nil =>
    intro pc L S L' S' X X' P ok hx hP kk
    cases hx
    exact kk
  | cons op ops ih =>
    intro pc L S L' S' X X' P ok hx hP kk
    simp only [okOs, Bool.and_eq_true] at ok
    rcases h1 : sx sc op L S X with ⟨L1, S1, X1, P1⟩
    rcases h2 : sxs sc ops L1 S1 X1 with ⟨L2, S2, X2, P2⟩
    simp only [sxs, h1, h2] at hx
    cases hx
    exact simOp C0 hR ok.1 h1 hP.1 (ih ok.2 h2 hP.2 kk)
theorem rg_A {X : XT} {H : Heap} {locs : List Loc} (hA : ∀ q, s.heap.size ≤ q → A q) (hW : Wd s tc ad dC dI A X H locs) : ∀ q, rg ad H.size q → A q := by
  intro q hq
  rcases hq with ⟨r, hr, rfl⟩ | hq
  · obtain ⟨i, hi⟩ := List.getElem?_of_mem hr
    exact hW.2.1.2 i _ (wW_at tc ad X hi)
  · exact hA q (Nat.le_trans hW.2.2.1 hq)
theorem cP_at {X : XT} {H : Heap} {locs : List Loc} (C0 : Cx p s m args meth c y sc tc ad dC dI A) (hW : Wd s tc ad dC dI A X H locs) {U : State} (hU : U.heap = H) (hWm : s.WarmedH U.vm) : cP sc tc ad dC dI X H.size U := by
  obtain ⟨x0, hb, hml, hr, hlk, hown, hts, hK, hA, hG⟩ := C0
  refine ⟨by rw [hU], by rw [hU]; exact hW.1, va_K.moved hWm.alike hK, hW.2.1.weaken (fun _ _ _ _ => trivial), ?_⟩
  rw [hU]
  exact ((hG.kept hW.2.2.2.1).warm hWm).narrow (rg_A hA hW)
/-- behind a call: its return -/
theorem simBack {pc : Nat} {k1 : Nat} {L rest : List AV} {X X1 : XT} {o1 : OUT} {ls : Array Slot} {H : Heap} {locs : List Loc} {st0 : List Value} {a : Array Value} (C0 : Cx p s m args meth c y sc tc ad dC dI A) (hW : Wd s tc ad dC dI A X H locs) (hL : Lc ad y ls L) (hrest : ∀ v ∈ rest, vok v)
    (run : vx_Run p l e R s m args below meth c H locs cells slots k1 (6 * k1) (F0 m pc ls st0) (rest.map (cv ad)) (cQ tc ad dC dI o1 X1 (rg ad H.size) a) (cX tc ad dC dI o1 X1 (rg ad H.size)) (rg ad H.size))
    (hret : ∀ v : Option AV, o1 = .inl v → Ws p l e R s m args below meth c (cells + k1) (slots + 6 * k1) Q y tc ad dC dI A (pc + 3) L (v.toList ++ rest) X1)
    (hexc : ∀ (x : Nat) (q : Addr) (ce : Cell) (H1 : Heap) (locs1 : List Loc), o1 = .inr x → x < 3 → H1[q]? = some ce → ce.vm = .none → s.vm.findClass (exN x) = some ce.cls → Wd s tc ad dC dI A X1 H1 locs1 → vx_W p l e R s m args below meth c H1 locs1 (cells + k1) (slots + 6 * k1) Q (F0 m pc ls (rest.map (cv ad))) q) :
    W p l e R s m args below meth c H locs cells slots Q (F0 m pc ls st0) := by
  obtain ⟨x0, hb, hml, hr, hlk, hown, hts, hK, hA, hG⟩ := id C0
  have hrA := rg_A hA hW
  intro T hT Xs
  rcases run T hT Xs with ⟨v, st₀, t, T', Lx, h0, X', hLf, e1, e2, hq, st⟩ | ⟨q, st₀, t, T', Lx, E, ce, h0, X', hLf, e1, e2, hx, hce, hcv, hcl, st⟩
  · obtain ⟨⟨w, hw1, hw2, hw3⟩, hP1, hF⟩ := hq
    cases hw3
    obtain ⟨g1, g2, g3⟩ := vx_keep h0 e1 hW.2.2 (fun q _ h => hrA q h) hrA hLf hF
    have hw4 : ∀ u ∈ w.toList ++ rest, vok u := by
      intro u hu
      rcases List.mem_append.mp hu with h | h
      · cases w with
        | none => cases h
        | some w =>
          rw [List.mem_singleton.mp h]
          exact hw2 w rfl
      · exact hrest u h
    obtain ⟨t2, a1, b1⟩ := hret w hw1 ls T'.heap (locs ++ Lx) ⟨by rw [e1]; exact hP1, wD_to hW.2.1, g3⟩ hL hw4 T' rfl X'
    refine ⟨t2, st t2 ?_, b1⟩
    have e9 : (w.map (cv ad)).toList ++ rest.map (cv ad) = (w.toList ++ rest).map (cv ad) := by cases w <;> rfl
    show Steps p.tables e below (T'.setTop (F0 m (pc + 3) ls ((w.map (cv ad)).toList ++ rest.map (cv ad)))) t2
    rw [e9]
    exact a1
  · obtain ⟨⟨x, hx1, hx2, rfl⟩, hP1, hF⟩ := hx
    obtain ⟨g1, g2, g3⟩ := vx_keep h0 e1 hW.2.2 (fun q _ h => hrA q h) hrA hLf hF
    obtain ⟨t2, a1, b1⟩ := hexc x q ce T'.heap (locs ++ Lx) hx1 hx2 (by rw [e1]; exact hce) hcv hcl ⟨by rw [e1]; exact hP1, wD_to hW.2.1, g3⟩ T' rfl X'
    exact ⟨t2, st.trans a1, b1⟩
/-- a call, whichever: the callee's contract -/
theorem simCall {pc d z ix k1 : Nat} {L S : List AV} {X X1 : XT} {o1 : OUT} {ls : Array Slot} {H : Heap} {locs : List Loc} {ins : Instr} (C0 : Cx p s m args meth c y sc tc ad dC dI A) (hW : Wd s tc ad dC dI A X H locs) (hL : Lc ad y ls L) (hS : ∀ v ∈ S, vok v)
    (hfr : d + 9 ≤ R.frames) (hlo : 60 * d + 260 ≤ R.locals) (hc1 : cells + k1 ≤ R.cells) (hs1 : slots + 6 * k1 ≤ R.slots) (hz : z < 168) (hn : mNa z ≤ S.length) (hcat : ((S.drop (mNa z)).map avc).sum ≤ 8) (hrc : rcOk z (S.take (mNa z)).reverse)
    (hins : (ins = .invokevirtual ix ∧ (mRc z).isSome = true ∧ mHh z = none) ∨ (ins = .invokestatic ix ∧ mRc z = none)) (hml : (mOw y, ix, z) ∈ MR) (hdg : decode (mBy y) pc = .ok (ins, 3))
    (hCt : Ct l sc tc ad dC dI d z (S.take (mNa z)).reverse X o1 X1 k1) :
    ∃ a, vx_Run p l e R s m args below meth c H locs cells slots k1 (6 * k1) (F0 m pc ls (S.map (cv ad))) ((S.drop (mNa z)).map (cv ad)) (cQ tc ad dC dI o1 X1 (rg ad H.size) a) (cX tc ad dC dI o1 X1 (rg ad H.size)) (rg ad H.size) := by
  obtain ⟨x0, hb, hmlc, hr, hlk, hown, hts, hK, hA, hG⟩ := id C0
  have hds := mDs_ok z hz
  simp only [mDs, Bool.and_eq_true, decide_eq_true_eq] at hds
  obtain ⟨⟨⟨⟨⟨⟨⟨⟨d1, d2⟩, d3⟩, d4⟩, d5⟩, d6⟩, d7⟩, d8⟩, d9⟩ := hds
  have hin := wsY_in hz
  have hcw := cW_ok z hz
  have hroom : (rmY d k1).frames + 1 ≤ R.frames ∧ 8 + (mLo z + 11) + (rmY d k1).locals ≤ R.locals := ⟨by show d + 8 + 1 ≤ _; omega, by show 8 + (mLo z + 11) + (60 * d + 200) ≤ _; omega⟩
  have hsum : 2 * (F0 m pc ls (S.map (cv ad))).monitorRoom + (((S.drop (mNa z)).map (cv ad)).map fun v => v.category).sum ≤ 8 := lv_room (by rw [cv_cats]; exact hcat)
  have hsz : (F0 m pc ls (S.map (cv ad))).locals.size = mLo y := by
    show ls.size = _
    rw [hL.1.1, hL.2.1]
  have hmlk : ¬ (mOw y = 3 ∧ ix = 72) → Jvm.Cond.methodLink (ownS (mOw y)) ix (mNm z) ∈ lwG := fun hne => by
    have h := mW_ok _ hml
    unfold mW at h
    rw [if_neg hne] at h
    exact lwG_in h rfl
  rcases hins with ⟨rfl, hsome, hh0⟩ | ⟨rfl, hnone⟩
  · have hne : ¬ (mOw y = 3 ∧ ix = 72) := fun hq => by
      have h9 : z = 167 := mR_n _ hml hq
      rw [h9] at hsome
      exact absurd hsome (by decide)
    replace hmlk := hmlk hne
    obtain ⟨ci, hci⟩ := Option.isSome_iff_exists.mp hsome
    rw [hci] at d7
    simp only [Bool.and_eq_true, decide_eq_true_eq] at d7
    obtain ⟨⟨e1, e2⟩, e3⟩ := d7
    unfold rcOk at hrc
    rw [hci] at hrc
    cases hA1 : (S.take (mNa z)).reverse with
    | nil => rw [hA1] at hrc; exact hrc.elim
    | cons v0 As =>
      rw [hA1] at hrc hCt
      rcases v0 with v0 | v0 | ⟨k, a, b⟩
      · exact hrc.elim
      · exact hrc.elim
      · dsimp only at hrc
        cases hk : kSh k with
        | none => rw [hk] at hrc; exact hrc.elim
        | some sh =>
          rw [hk] at hrc
          rcases sh with ⟨cj, fs⟩ | sh
          · dsimp only at hrc
            subst hrc
            have hm0 : Sum.inr (Sum.inr (k, a, b)) ∈ S := by
              have : Sum.inr (Sum.inr (k, a, b)) ∈ (S.take (mNa z)).reverse := by rw [hA1]; exact List.mem_cons_self
              exact List.mem_of_mem_take (List.mem_reverse.mp this)
            have hm : (k, a, b) ∈ ids := vok_in (hS _ hm0) hk
            obtain ⟨q0, hq0⟩ := List.getElem?_of_mem hm
            have hat := wW_at tc ad X hq0
            rw [wE_obj hk] at hat
            have hcl := (vcl_ok e1).1
            have hlenA : As.length = mNa z - 1 := by
              have h9 := congrArg List.length hA1
              rw [List.length_reverse, List.length_take, List.length_cons, Nat.min_eq_left hn] at h9
              omega
            have hstk : S.map (cv ad) = (As.map (cv ad)).reverse ++ .ref (ad k a b) :: (S.drop (mNa z)).map (cv ad) := by
              have h9 : S = As.reverse ++ Sum.inr (Sum.inr (k, a, b)) :: S.drop (mNa z) := by
                have h8 : S.take (mNa z) = As.reverse ++ [Sum.inr (Sum.inr (k, a, b))] := by
                  rw [← List.reverse_reverse (S.take (mNa z)), hA1, List.reverse_cons]
                calc S = S.take (mNa z) ++ S.drop (mNa z) := (List.take_append_drop _ _).symm
                  _ = _ := by rw [h8, List.append_assoc]; rfl
              conv => lhs; rw [h9]
              rw [List.map_append, List.map_reverse, List.map_cons]
              rfl
            have hcode : mCw z = .code (mNm z) (mBy z) (mLo z) (mRt z) := by unfold mCw; rw [hh0]
            have hcw' : ∀ w ∈ cW z, w ∈ lwG := fun w hw => lwG_in (hcw w hw) (by
              unfold cW at hw
              rw [hci] at hw
              rcases List.mem_cons.mp hw with rfl | hw
              · rfl
              · rcases List.mem_cons.mp hw with rfl | hw
                · rfl
                · rw [List.mem_singleton.mp hw]; rfl)
            unfold cW at hcw'
            rw [hci] at hcw'
            have hG1 : GoodIn lwG (wsV (ownS (mOw y)) ix (mNm z).cls (mNm z) (wsY z)) := good_lwG (fun w hw => by
              unfold wsV at hw
              rcases List.mem_append.mp hw with hw | hw
              · rcases List.mem_cons.mp hw with rfl | hw
                · exact hmlk
                · exact hcw' w hw
              · exact hin w hw)
            refine ⟨_, vx_runV (As := As.map (cv ad)) (rest := (S.drop (mNa z)).map (cv ad)) ⟨x0, hb, hmlc, hown, hts⟩ (hCt H.size) (cwV (mNa z - 1) hts hG1 (show wsY z = Jvm.Cond.code (mNm z) (mBy z) (mLo z) (mRt z) :: lwG from by unfold wsY; rw [hcode]) rfl rfl ⟨rfl, d2, d3, by rw [d1, if_pos hsome]⟩ hroom)
              ⟨cP_blind, ?_, fun U hU hWm => ⟨rfl, cP_at C0 hW hU hWm⟩⟩ rfl (by rw [List.length_map]; exact hlenA) hsz hstk hsum hdg ⟨hc1, hs1⟩⟩
            have h7 := va_recv hK hW.1 (ci := cj) (q0 := q0) hcl hat
            rw [e2] at h7
            exact h7
          · exact hrc.elim
  · have hstk : S.map (cv ad) = (((S.take (mNa z)).reverse).map (cv ad)).reverse ++ (S.drop (mNa z)).map (cv ad) := by
      rw [List.map_reverse, List.reverse_reverse, ← List.map_append, List.take_append_drop]
    have hlenA : (((S.take (mNa z)).reverse).map (cv ad)).length = mNa z := by
      rw [List.length_map, List.length_reverse, List.length_take, Nat.min_eq_left hn]
    have hcw' : ∀ w ∈ cW z, w ∈ lwG := fun w hw => lwG_in (hcw w hw) (by
      unfold cW at hw
      rw [hnone] at hw
      rcases List.mem_cons.mp hw with rfl | hw
      · rfl
      · rw [List.mem_singleton.mp hw]; rfl)
    unfold cW at hcw'
    rw [hnone] at hcw'
    have hd9 : (parseMethodDescriptor (mNm z).desc).map (fun d => d.parameters.length) = some (mNa z) := by
      rw [d1, hnone]
      rfl
    by_cases hq : mOw y = 3 ∧ ix = 72
    · have h9 : z = 167 := mR_n _ hml hq
      have hl : va_Nw (.methodLinkNest (ownS (mOw y)) ix (mNm z) "GroupTables") s := by
        rw [hq.1, hq.2, h9]
        exact hG.2.2.2.2.2.2.1
      have hh : mHh z = none := by rw [h9]; rfl
      have hcode : mCw z = .code (mNm z) (mBy z) (mLo z) (mRt z) := by unfold mCw; rw [hh]
      exact ⟨_, vx_runSN (As := ((S.take (mNa z)).reverse).map (cv ad)) (rest := (S.drop (mNa z)).map (cv ad)) ⟨x0, hb, hmlc, hown, hts⟩ (hCt H.size) ⟨va_cnB (mNa z) hts (good_lwG hin) (show wsY z = Jvm.Cond.code (mNm z) (mBy z) (mLo z) (mRt z) :: lwG from by unfold wsY; rw [hcode]) rfl rfl hl (hts _ (hcw' _ (List.mem_cons_of_mem _ List.mem_cons_self))) ⟨d2, d3, hd9⟩ hroom, hts _ (hcw' _ List.mem_cons_self), trivial⟩
        ⟨cP_blind, fun U hU hWm => ⟨rfl, cP_at C0 hW hU hWm⟩⟩ rfl hlenA hsz hstk hsum hdg ⟨hc1, hs1⟩⟩
    replace hmlk := hmlk hq
    have hG1 : GoodIn lwG (va_wsS (ownS (mOw y)) ix (mNm z) (wsY z)) := good_lwG (fun w hw => by
      unfold va_wsS at hw
      rcases List.mem_append.mp hw with hw | hw
      · rcases List.mem_cons.mp hw with rfl | hw
        · exact hmlk
        · exact hcw' w hw
      · exact hin w hw)
    cases hh : mHh z with
    | none =>
      have hcode : mCw z = .code (mNm z) (mBy z) (mLo z) (mRt z) := by unfold mCw; rw [hh]
      exact ⟨_, vx_runS (As := ((S.take (mNa z)).reverse).map (cv ad)) (rest := (S.drop (mNa z)).map (cv ad)) ⟨x0, hb, hmlc, hown, hts⟩ (hCt H.size) (va_cwS (mNa z) hts hG1 (show wsY z = Jvm.Cond.code (mNm z) (mBy z) (mLo z) (mRt z) :: lwG from by unfold wsY; rw [hcode]) rfl rfl ⟨d2, d3, hd9⟩ hroom)
        ⟨cP_blind, fun U hU hWm => ⟨rfl, cP_at C0 hW hU hWm⟩⟩ rfl hlenA hsz hstk hsum hdg ⟨hc1, hs1⟩⟩
    | some h9 =>
      have hcode : mCw z = .codeWith (mNm z) (mBy z) (mLo z) (mRt z) h9 := by unfold mCw; rw [hh]
      exact ⟨_, vx_runSX (As := ((S.take (mNa z)).reverse).map (cv ad)) (rest := (S.drop (mNa z)).map (cv ad)) ⟨x0, hb, hmlc, hown, hts⟩ (hCt H.size) (vx_cwSW (mNa z) hts hG1 (show wsY z = Jvm.Cond.codeWith (mNm z) (mBy z) (mLo z) (mRt z) h9 :: lwG from by unfold wsY; rw [hcode]) rfl rfl ⟨d2, d3, hd9⟩ hroom)
        ⟨cP_blind, fun U hU hWm => ⟨rfl, cP_at C0 hW hU hWm⟩⟩ rfl hlenA hsz hstk hsum hdg ⟨hc1, hs1⟩⟩
end Sims
