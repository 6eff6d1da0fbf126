/-! the whole simulation -/
section Alls
variable {p : Program} {l : Launch} {e : Env} {R : Room} {s : State} {m : MethodId} {args : Array Value} {below : List Frame} {meth : Method} {c : Code} {cells slots : Nat} {Q : State → Prop} {y : Nat} {sc : SC} {tc : Nat → ClassId} {ad : ADR} {dC : Nat → ClassId} {dI : Nat → Nat → Nat} {A : Nat → Prop}
def thD (y : Nat) (pc : Nat) (x is : Nat) : Prop := mOw y = 7 ∧ mHh y = none ∧ ∃ ik ic, (x, ik, ic) ∈ EXl ∧ is ∈ STl.map (fun q => q.1) ∧ decode (mBy y) pc = .ok (.new ik, 3) ∧ decode (mBy y) (pc + 3) = .ok (.dup, 1) ∧ decode (mBy y) (pc + 4) = .ok (.ldc is, 2) ∧ decode (mBy y) (pc + 6) = .ok (.invokespecial ic, 3) ∧ decode (mBy y) (pc + 9) = .ok (.athrow, 1)
/-- what a run's ends must give -/
def En (p : Program) (l : Launch) (e : Env) (R : Room) (s : State) (m : MethodId) (args : Array Value) (below : List Frame) (meth : Method) (c : Code) (Q : State → Prop) (y : Nat) (tc : Nat → ClassId) (ad : ADR) (dC : Nat → ClassId) (dI : Nat → Nat → Nat) (A : Nat → Prop) (o : OUT) (Z : XT) (mc ms : Nat) : Prop :=
  (∀ (v : Int32) (pc : Nat) (ls : Array Slot) (H : Heap) (locs : List Loc), o = .inl (some (.inl v)) → decode (mBy y) pc = .ok (.ireturn, 1) → (mRt y = some .int ∨ (mRt y = some .boolean ∧ (v = 0 ∨ v = 1))) → Wd s tc ad dC dI A Z H locs → W p l e R s m args below meth c H locs mc ms Q (F0 m pc ls [.int v])) ∧
  (∀ (r : Nat × Int32 × Int32) (pc : Nat) (ls : Array Slot) (H : Heap) (locs : List Loc), o = .inl (some (.inr (.inr r))) → vok (.inr (.inr r)) → decode (mBy y) pc = .ok (.areturn, 1) → mRt y = some (.object "GroupTables$Group") → Wd s tc ad dC dI A Z H locs → W p l e R s m args below meth c H locs mc ms Q (F0 m pc ls [cv ad (.inr (.inr r))])) ∧
  (∀ (pc : Nat) (ls : Array Slot) (H : Heap) (locs : List Loc), o = .inl none → decode (mBy y) pc = .ok (.return_, 1) → mRt y = none → Wd s tc ad dC dI A Z H locs → W p l e R s m args below meth c H locs mc ms Q (F0 m pc ls [])) ∧
  (∀ (x is pc cells slots : Nat) (ls : Array Slot) (H : Heap) (locs : List Loc), o = .inr x → x < 3 → cells + 1 = mc → slots + 6 = ms → thD y pc x is → ls.size = mLo y → Wd s tc ad dC dI A Z H locs → W p l e R s m args below meth c H locs cells slots Q (F0 m pc ls [])) ∧
  (∀ (x pc : Nat) (ls : Array Slot) (H : Heap) (locs : List Loc) (rest : List Value) (q : Addr) (ce : Cell), o = .inr x → x < 3 → mHn y = [] → H[q]? = some ce → ce.vm = .none → s.vm.findClass (exN x) = some ce.cls → Wd s tc ad dC dI A Z H locs → vx_W p l e R s m args below meth c H locs mc ms Q (F0 m pc ls rest) q) ∧
  (∀ (h : Nat × Nat × Nat × Nat) (pc pt cells slots : Nat) (L : List AV) (ls : Array Slot) (H : Heap) (locs : List Loc) (rest : List Value) (q : Addr) (ce : Cell), h ∈ mHn y → tbOk y pc = true → sPc y h.2.2.2 = some pt → H[q]? = some ce → ce.vm = .none → s.vm.findClass (exN h.1) = some ce.cls → Lc ad y ls L → (∀ ls', Lc ad y ls' (L.set h.2.2.1 av0) → W p l e R s m args below meth c H locs cells slots Q (F0 m pt ls' [])) → vx_W p l e R s m args below meth c H locs cells slots Q (F0 m pc ls rest) q)
def Sim (l : Launch) (sc : SC) (n : Nat) : Prop := ∀ (d y i : Nat) (L S : List AV) (X : XT) (o : OUT) (Z : XT) (k : Nat), Go sc n d y i L S X o Z k →
  ∀ {p : Program} {e : Env} {R : Room} {s : State} {m : MethodId} {args : Array Value} {below : List Frame} {meth : Method} {c : Code} {cells slots mc ms : Nat} {Q : State → Prop} {tc : Nat → ClassId} {ad : ADR} {dC : Nat → ClassId} {dI : Nat → Nat → Nat} {A : Nat → Prop},
  Cx p s m args meth c y sc tc ad dC dI A → d + 8 ≤ R.frames → 60 * d + 200 ≤ R.locals → cells + k = mc → slots + 6 * k = ms → mc ≤ R.cells → ms ≤ R.slots → En p l e R s m args below meth c Q y tc ad dC dI A o Z mc ms →
  ∀ pc : Nat, sPc y i = some pc → Ws p l e R s m args below meth c cells slots Q y tc ad dC dI A pc L S X
theorem code_lt {y i : Nat} {sg : SG} (h : (code9 y)[i]? = some sg) : y < 169 := by
  rcases Nat.lt_or_ge y 169 with q | q
  · exact q
  · have h0 : codeL[y]? = none := List.getElem?_eq_none (by show 169 ≤ y; exact q)
    unfold code9 at h
    rw [List.getD_eq_getElem?_getD, h0] at h
    cases h
theorem off_eq {a : Option Nat} {b : Int} (h : a.map Int.ofNat = some b) : ∃ t : Nat, a = some t ∧ b = (t : Int) := by
  cases a with
  | none => cases h
  | some t => cases h; exact ⟨t, rfl, rfl⟩
set_option maxHeartbeats 4000000 in
theorem simTm {n d : Nat} {t : Instr × Nat × Nat × Nat} {L S : List AV} {X : XT} {o : OUT} {Z : XT} {k pc mc ms : Nat} (hC : ∀ (d z : Nat) (as : List AV) (X : XT) (o : OUT) (Z : XT) (k : Nat), Go sc n d z 0 (ent z as) [] X o Z k → z < 168 → (∀ v ∈ as, vok v ∧ avc v = 1) → as.length = mNa z → Ct l sc tc ad dC dI d z as X o Z k)
    (hI : Sim l sc n) (hT : Tm (Go sc n) d y t L S X o Z k) (hy : y < 169) (ok : okT y (mBy y) pc t = true)
    (C0 : Cx p s m args meth c y sc tc ad dC dI A) (hfr : d + 8 ≤ R.frames) (hlo : 60 * d + 200 ≤ R.locals) (hmc : cells + k = mc) (hms : slots + 6 * k = ms) (hRc : mc ≤ R.cells) (hRs : ms ≤ R.slots) (hE : En p l e R s m args below meth c Q y tc ad dC dI A o Z mc ms) :
    Ws p l e R s m args below meth c cells slots Q y tc ad dC dI A pc L S X := by
  obtain ⟨x0, hb, hml, hr, hlk, hown, hts, hK, hA, hG⟩ := id C0
  obtain ⟨ins, ln, ta, tb⟩ := t
  obtain ⟨E1, E2, E3, E4, E5, E6⟩ := hE
  have hE : En p l e R s m args below meth c Q y tc ad dC dI A o Z mc ms := ⟨E1, E2, E3, E4, E5, E6⟩
  intro ls H locs hW hL hS
  have call : ∀ (ix : Nat), Cl (Go sc n) d y ta tb L S X o Z k → ((ins = .invokevirtual ix ∧ (mRc ta).isSome = true ∧ mHh ta = none) ∨ (ins = .invokestatic ix ∧ mRc ta = none)) → (mOw y, ix, ta) ∈ MR → decode (mBy y) pc = .ok (ins, 3) → sPc y tb = some (pc + 3) → ta < 168 → tbOk y pc = true → W p l e R s m args below meth c H locs cells slots Q (F0 m pc ls (S.map (cv ad))) := by
    intro ix hcl hins hmr hdg hsp hz htb
    obtain ⟨d', o1, X1, k1, rfl, hn, hcat, hall, hrc, hgo, hend⟩ := hcl
    have hk1 : k1 ≤ k := by
      rcases o1 with v | x
      · rcases v with _ | v
        · obtain ⟨k2, -, rfl⟩ := hend; omega
        · obtain ⟨k2, -, rfl⟩ := hend; omega
      · rcases hend with ⟨-, -, -, rfl⟩ | ⟨h, -, -, k2, -, rfl⟩ <;> omega
    have has : ∀ v ∈ (S.take (mNa ta)).reverse, vok v := fun v hv => hS v (List.mem_of_mem_take (List.mem_reverse.mp hv))
    have hc1 : ∀ v ∈ (S.take (mNa ta)).reverse, avc v = 1 := fun v hv => by simpa using List.all_eq_true.mp hall v (List.mem_reverse.mp hv)
    · obtain ⟨a, run⟩ := simCall (cells := cells) (slots := slots) (e := e) (below := below) (R := R) (d := d') (k1 := k1) (o1 := o1) (X1 := X1) C0 hW hL hS (by omega) (by omega) (by omega) (by omega) hz hn hcat hrc hins hmr hdg (hC d' ta _ X o1 X1 k1 hgo hz (fun v hv => ⟨has v hv, hc1 v hv⟩) (by rw [List.length_reverse, List.length_take, Nat.min_eq_left hn]))
      refine simBack C0 hW hL (fun v hv => hS v (List.mem_of_mem_drop hv)) run (fun v hv => ?_) (fun x q ce H1 locs1 hx hx3 hce hcv hcl hW1 => ?_)
      · subst hv
        rcases v with _ | v
        · obtain ⟨k2, hg, rfl⟩ := hend
          exact hI _ _ _ _ _ _ _ _ _ hg C0 hfr hlo (by omega) (by omega) hRc hRs hE _ hsp
        · obtain ⟨k2, hg, rfl⟩ := hend
          exact hI _ _ _ _ _ _ _ _ _ hg C0 hfr hlo (by omega) (by omega) hRc hRs hE _ hsp
      · subst hx
        rcases hend with ⟨h0, rfl, rfl, rfl⟩ | ⟨h, hm, hh, k2, hg, rfl⟩
        · have := E5 x pc ls H1 locs1 ((S.drop (mNa ta)).map (cv ad)) q ce rfl hx3 h0 hce hcv hcl hW1
          rw [← hmc, ← hms] at this
          exact this
        · have hok := okH_all y hy
          simp only [okH, Bool.and_eq_true, decide_eq_true_eq, List.all_eq_true] at hok
          have hh2 := (hok.1.1.1.2 h hm)
          have hpt : ∃ pt, sPc y h.2.2.2 = some pt := by
            have h9 := hh2.2
            unfold astOk at h9
            cases hq : sPc y h.2.2.2 with
            | none => rw [hq] at h9; simp at h9
            | some pt => exact ⟨pt, rfl⟩
          obtain ⟨pt, hpt⟩ := hpt
          refine E6 h pc pt (cells + k1) (slots + 6 * k1) L ls H1 locs1 _ q ce hm htb hpt hce hcv (by rw [hh]; exact hcl) hL (fun ls' hL' => ?_)
          exact hI _ _ _ _ _ _ _ _ _ hg C0 hfr hlo (by omega) (by omega) hRc hRs hE _ hpt ls' H1 locs1 hW1 hL' (fun v hv => nomatch hv)
  cases ins
  case nop =>
    simp only [okT, decide_eq_true_eq] at ok
    exact hI _ _ _ _ _ _ _ _ _ hT C0 hfr hlo hmc hms hRc hRs hE _ ok ls H locs hW hL hS
  case goto off =>
    simp only [okT, Bool.and_eq_true, decide_eq_true_eq] at ok
    obtain ⟨tg, h1, h2⟩ := off_eq ok.2
    exact lv_goto x0 hb ok.1 h2 (hI _ _ _ _ _ _ _ _ _ hT C0 hfr hlo hmc hms hRc hRs hE _ h1 ls H locs hW hL hS)
  case ifCond q off =>
    simp only [okT, Bool.and_eq_true, decide_eq_true_eq] at ok
    obtain ⟨⟨hd, h0⟩, h3⟩ := ok
    obtain ⟨tg, h1, h2⟩ := off_eq h0
    dsimp only [Tm] at hT
    split at hT
    · next x S1 =>
      have kt : cz q x → W p l e R s m args below meth c H locs cells slots Q (F0 m tg ls (S1.map (cv ad))) := fun hc => hI _ _ _ _ _ _ _ _ _ (hT.1 hc) C0 hfr hlo hmc hms hRc hRs hE _ h1 ls H locs hW hL (vok_t hS)
      have kf : ¬ cz q x → W p l e R s m args below meth c H locs cells slots Q (F0 m (pc + 3) ls (S1.map (cv ad))) := fun hc => hI _ _ _ _ _ _ _ _ _ (hT.2 hc) C0 hfr hlo hmc hms hRc hRs hE _ h3 ls H locs hW hL (vok_t hS)
      cases q
      · exact lv_if_eq x0 hb hd h2 kt kf
      · exact lv_if_ne x0 hb hd h2 kt (fun h => kf (fun hn => hn h))
      · exact lv_if_lt x0 hb hd h2 kt kf
      · exact lv_if_ge x0 hb hd h2 kt kf
      · exact lv_if_gt x0 hb hd h2 kt kf
      · exact lv_if_le x0 hb hd h2 kt kf
    · exact hT.elim
  case if_icmp q off =>
    simp only [okT, Bool.and_eq_true, decide_eq_true_eq] at ok
    obtain ⟨⟨hd, h0⟩, h3⟩ := ok
    obtain ⟨tg, h1, h2⟩ := off_eq h0
    dsimp only [Tm] at hT
    split at hT
    · next w x S1 =>
      have kt : ci2 q x w → W p l e R s m args below meth c H locs cells slots Q (F0 m tg ls (S1.map (cv ad))) := fun hc => hI _ _ _ _ _ _ _ _ _ (hT.1 hc) C0 hfr hlo hmc hms hRc hRs hE _ h1 ls H locs hW hL (vok_t (vok_t hS))
      have kf : ¬ ci2 q x w → W p l e R s m args below meth c H locs cells slots Q (F0 m (pc + 3) ls (S1.map (cv ad))) := fun hc => hI _ _ _ _ _ _ _ _ _ (hT.2 hc) C0 hfr hlo hmc hms hRc hRs hE _ h3 ls H locs hW hL (vok_t (vok_t hS))
      cases q
      · exact lv_icmp_eq x0 hb hd h2 kt kf
      · exact lv_icmp_ne x0 hb hd h2 kt (fun h => kf (fun hn => hn h))
      · exact lv_icmp_lt x0 hb hd h2 kt kf
      · exact lv_icmp_ge x0 hb hd h2 kt kf
      · exact lv_icmp_gt x0 hb hd h2 kt kf
      · exact lv_icmp_le x0 hb hd h2 kt kf
    · exact hT.elim
  case ireturn =>
    simp only [okT, Bool.and_eq_true, Bool.or_eq_true, decide_eq_true_eq] at ok
    dsimp only [Tm] at hT
    split at hT
    · next v =>
      obtain ⟨hv, ho, rfl, rfl⟩ := hT
      have h9 := E1 v pc ls H locs ho ok.1 (ok.2.imp id (fun h => ⟨h.1, hv.resolve_left (by rw [h.2]; decide)⟩)) hW
      rw [← hmc, ← hms] at h9
      exact h9
    · exact hT.elim
  case areturn =>
    simp only [okT, Bool.and_eq_true, decide_eq_true_eq] at ok
    dsimp only [Tm] at hT
    split at hT
    · next r =>
      obtain ⟨ho, rfl, rfl⟩ := hT
      have h9 := E2 r pc ls H locs ho (hS _ List.mem_cons_self) ok.1 ok.2 hW
      rw [← hmc, ← hms] at h9
      exact h9
    · exact hT.elim
  case return_ =>
    simp only [okT, Bool.and_eq_true, decide_eq_true_eq] at ok
    obtain ⟨rfl, ho, rfl, rfl⟩ := hT
    have h9 := E3 pc ls H locs ho ok.1 ok.2 hW
    rw [← hmc, ← hms] at h9
    exact h9
  case new ik =>
    simp only [okT, Bool.and_eq_true, decide_eq_true_eq, List.any_eq_true] at ok
    obtain ⟨⟨⟨⟨⟨⟨⟨o1, o2⟩, ⟨⟨qx, qk, qc⟩, o3, ⟨o4, o5⟩, o6⟩⟩, o7⟩, o8⟩, o9⟩, o10⟩, o11⟩ := ok
    obtain ⟨rfl, ho, rfl, rfl⟩ := hT
    dsimp only at o4 o5 o6 o7 o10 ho
    subst o4 o5
    have hx3 : qx < 3 := by
      have h0 : ∀ q ∈ EXl, q.1 < 3 := by decide +kernel
      exact h0 _ o3
    exact E4 qx tb pc cells slots ls H locs ho hx3 hmc hms ⟨o1, o2, _, _, o3, o7, o8, o9, o10, o6, o11⟩ (by rw [hL.1.1, hL.2.1]) hW
  case tableswitch df lo hi offs =>
    simp only [okT, Bool.and_eq_true, decide_eq_true_eq, List.all_eq_true] at ok
    obtain ⟨⟨⟨⟨⟨hd, rfl⟩, rfl⟩, hsz⟩, hdf⟩, hall⟩ := ok
    dsimp only [Tm] at hT
    split at hT
    · next x S1 =>
      obtain ⟨hx, hT⟩ := hT
      have hx1 : ¬ x < 0 := fun q => by
        have h1 := Int32.le_iff_toInt_le.mp hx
        have h2 := Int32.lt_iff_toInt_lt.mp q
        omega
      obtain ⟨j, hj, rfl⟩ := nI_of hx1
      rw [nI_clamp hj] at hT
      have hji := nI_toInt hj
      by_cases h25 : j ≤ 25
      · have h9 := hall j (List.mem_range.mpr (by omega))
        cases ho : offs[j]? with
        | none =>
          have := Array.getElem?_eq_none_iff.mp ho
          omega
        | some off =>
          rw [ho] at h9
          obtain ⟨tg, h1, h2⟩ := off_eq h9
          exact lv_tableIn x0 hb hd (by rw [hji]; omega) (by rw [hji]; omega) (by rw [hji]; simpa using ho) h2 (hI _ _ _ _ _ _ _ _ _ hT C0 hfr hlo hmc hms hRc hRs hE _ h1 ls H locs hW hL (vok_t hS))
      · obtain ⟨tg, h1, h2⟩ := off_eq hdf
        have e9 : tsw.getD j (tsw.getD 26 0) = tsw.getD 26 0 := by
          by_cases h26 : j = 26
          · subst h26; rfl
          · have h0 : tsw[j]? = none := List.getElem?_eq_none (by show 27 ≤ j; omega)
            rw [List.getD_eq_getElem?_getD, h0]; rfl
        rw [e9] at hT
        exact lv_tableOut x0 hb hd (by rw [hji]; omega) h2 (hI _ _ _ _ _ _ _ _ _ hT C0 hfr hlo hmc hms hRc hRs hE _ h1 ls H locs hW hL (vok_t hS))
    · exact hT.elim
  case invokevirtual ix =>
    simp only [okT, Bool.and_eq_true, decide_eq_true_eq] at ok
    obtain ⟨⟨⟨⟨⟨⟨o1, o2⟩, o3⟩, o4⟩, o5⟩, o6⟩, o7⟩ := ok
    exact call ix hT (Or.inl ⟨rfl, o4, o6⟩) o2 o1 o3 o5 o7
  case invokestatic ix =>
    simp only [okT, Bool.and_eq_true, decide_eq_true_eq] at ok
    obtain ⟨⟨⟨⟨⟨o1, o2⟩, o3⟩, o4⟩, o5⟩, o6⟩ := ok
    exact call ix hT (Or.inr ⟨rfl, o4⟩) o2 o1 o3 o5 o6
  all_goals exact hT.elim
end Alls
