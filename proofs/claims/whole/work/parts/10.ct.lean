/-! a run of the abstract machine is a contract of the real one -/
def exNs : List String := ["java/lang/RuntimeException", "java/lang/Exception"]
theorem exW : ∀ q ∈ EXl, Jvm.Cond.classLink RX7 q.2.1 (exN q.1) ∈ lw_tbl ∧ Jvm.Cond.initialized (exN q.1) ∈ lw_tbl := by decide +kernel
theorem exA : ∀ q ∈ EXl, ∀ w ∈ vx_atS RX7 q.2.2 (exN q.1) exNs, (w ∈ lw_tbl ∧ goodWord w = true) ∨ w = .castable (exN q.1) (exN q.1) ∨ w ∈ exD.map (fun n => Jvm.Cond.declares (Bundle.initS n)) := by decide +kernel
theorem exO : ∀ q ∈ EXl, ∀ w ∈ Jvm.Cond.classLink RX7 q.2.1 (exN q.1) :: Jvm.Cond.initialized (exN q.1) :: vx_atS RX7 q.2.2 (exN q.1) exNs, vx_ot w = true := by decide +kernel
theorem exF : ∀ q ∈ EXl, Bundle.fit (exN q.1) = true := by decide +kernel
theorem exFs : ∀ n ∈ exNs, Bundle.fit n = true := by decide +kernel
theorem ctW : ∀ a, a < 3 → Jvm.Cond.classLink RL (ctI a) (exN a) ∈ lw_tbl ∧ Jvm.Cond.castable (exN a) (exN a) ∈ lw_tbl ∧ ctI a ≠ 0 := by decide +kernel
theorem RL_own : ownS 9 = RL := rfl
theorem hn_own {y : Nat} (hy : y < 169) (h : mHn y ≠ []) : mOw y = 9 := by
  have hok := okH_all y hy
  simp only [okH, Bool.and_eq_true, Bool.or_eq_true, decide_eq_true_eq] at hok
  exact hok.1.2.resolve_left h
theorem LR.setN {ad : ADR} {ls' : Array Slot} {L : List AV} {i : Nat} {w : Value} (hi : i < L.length) (h' : lv_has ls' L.length (lvS (lvL ad L) i w)) : LR ad ls' (L.set i av0) := by
  refine ⟨by rw [List.length_set]; exact h'.1, h'.2.1, fun j u hj hu => ?_⟩
  by_cases e : j = i
  · subst e
    rw [List.getElem?_set_self hi] at hj
    cases hj
    cases hu
  · rw [List.getElem?_set_ne (fun q => e q.symm)] at hj
    refine h'.2.2 (j, cv ad u) (List.mem_cons_of_mem _ (List.mem_filter.mpr ⟨lvL_mem.mpr ⟨u, hj, hu, rfl⟩, ?_⟩))
    have hc : (cv ad u).category = 1 := by rw [cv_cat]; exact hu
    simp [e, hc]
theorem lv_args1 {ad : ADR} : ∀ (as : List AV) (k : Nat), (∀ v ∈ as, avc v = 1) → ∀ (i : Nat) (v : AV), as[i]? = some v → (k + i, cv ad v) ∈ lv_args k (as.map (cv ad))
  | [], _, _, i, v, h => by simp at h
  | a :: as, k, h1, 0, v, h => by
    cases h
    exact List.mem_cons_self
  | a :: as, k, h1, i + 1, v, h => by
    have hc : (cv ad a).category = 1 := by rw [cv_cat]; exact h1 a List.mem_cons_self
    have h2 := lv_args1 (ad := ad) as (k + 1) (fun w hw => h1 w (List.mem_cons_of_mem _ hw)) i v h
    show (k + (i + 1), cv ad v) ∈ (k, cv ad a) :: lv_args (if (cv ad a).category = 2 then k + 2 else k + 1) (as.map (cv ad))
    rw [hc]
    refine List.mem_cons_of_mem _ ?_
    rw [show k + (i + 1) = k + 1 + i by omega]
    exact h2
theorem lg_sl1 {ad : ADR} : ∀ (as : List AV), (∀ v ∈ as, avc v = 1) → (lg_sl (as.map (cv ad))).length = as.length
  | [], _ => rfl
  | a :: as, h1 => by
    have hc : (cv ad a).category = 1 := by rw [cv_cat]; exact h1 a List.mem_cons_self
    have h2 := lg_sl1 (ad := ad) as (fun w hw => h1 w (List.mem_cons_of_mem _ hw))
    unfold lg_sl at h2 ⊢
    rw [List.map_cons, List.flatMap_cons, List.length_append, h2, hc]
    simp
    omega
section Cts
variable {p : Program} {l : Launch} {e : Env} {R : Room} {s : State} {m : MethodId} {args : Array Value} {below : List Frame} {meth : Method} {c : Code} {y : Nat} {sc : SC} {tc : Nat → ClassId} {ad : ADR} {dC : Nat → ClassId} {dI : Nat → Nat → Nat}
set_option maxHeartbeats 4000000 in
theorem En_met {o : OUT} {Z : XT} {mc ms : Nat} (hl : l.stackTraces = false) (hy : y < 169) (C0 : Cx p s m args meth c y sc tc ad dC dI (rg ad s.heap.size)) (hfr : 8 ≤ R.frames) (hlo : 200 ≤ R.locals) (hcr : mc ≤ R.cells) (hsr : ms ≤ R.slots)
    (hT : (mHh y = none → c.exceptionTable.toList = []) ∧ ∀ hh, mHh y = some hh → c.exceptionTable.toList = tableOf hh) :
    En p l e R s m args below meth c (vx_MQ below (cQ tc ad dC dI o Z (rg ad s.heap.size)) (cX tc ad dC dI o Z (rg ad s.heap.size)) args s mc ms (rg ad s.heap.size)) y tc ad dC dI (rg ad s.heap.size) o Z mc ms := by
  obtain ⟨x0, hb, hml, hr, hlk, hown, hts, hK, hA, hG⟩ := id C0
  have hok := okH_all y hy
  simp only [okH, Bool.and_eq_true, Bool.or_eq_true, decide_eq_true_eq, List.all_eq_true] at hok
  obtain ⟨⟨⟨⟨k1, k2⟩, k3⟩, k4⟩, k5⟩ := hok
  have hcB : ∀ {H : Heap} {locs : List Loc} (t : State), t.heap = H → Wd s tc ad dC dI (rg ad s.heap.size) Z H locs → cB tc ad dC dI Z (rg ad s.heap.size) s t := fun t ht hW => ⟨by rw [ht]; exact hW.1, hW.2.2.F ht⟩
  refine ⟨?_, ?_, ?_, ?_, ?_, ?_⟩
  · intro v pc ls H locs ho hd hrt hW
    refine vx_ret ?_
    have hq : ∀ t : State, t.heap = H → s.WarmedH t.vm → cQ tc ad dC dI o Z (rg ad s.heap.size) args s (.returned (some (.int v))) t := fun t ht _ => ⟨⟨some (.inl v), ho, fun w hw => by cases hw; trivial, rfl⟩, hcB t ht hW⟩
    rcases hrt with hrt | ⟨hrt, hv⟩
    · exact W.zret (ty := .int) x0 hb (by rw [hr, hrt]) rfl hq hW.2.2.2.2 hd hlk
    · exact W.zret (ty := .boolean) x0 hb (by rw [hr, hrt]) (by rcases hv with rfl | rfl <;> rfl) hq hW.2.2.2.2 hd hlk
  · intro r pc ls H locs ho hvr hd hrt hW
    refine vx_ret ?_
    exact W.aret x0 hb (by rw [hr, hrt]) (Or.inl ⟨_, rfl⟩) (Or.inr ⟨_, rfl⟩) (fun t ht _ => ⟨⟨some (.inr (.inr r)), ho, fun w hw => by cases hw; exact hvr, rfl⟩, hcB t ht hW⟩) hW.2.2.2.2 hd hlk
  · intro pc ls H locs ho hd hrt hW
    refine vx_ret ?_
    exact W.vret x0 hb (by rw [hr, hrt]) (fun t ht _ => ⟨⟨none, ho, (fun w hw => by cases hw), rfl⟩, hcB t ht hW⟩) hW.2.2.2.2 hd hlk
  · intro x is pc cells slots ls H locs ho hx3 hc hs hth hsz hW
    obtain ⟨o1, o2, ik, ic, o3, o4, d0, d3, d4, d6, d9⟩ := hth
    obtain ⟨⟨is', tx⟩, hst, rfl⟩ := List.mem_map.mp o4
    obtain ⟨sa, hsa⟩ := hG.2.2.1 _ hst
    rw [o1] at hown
    have hw1 := exW _ o3
    refine vx_throwS (own := RX7) (cls := exN x) (names := exNs) (text := tx) (sa := sa) (A := rg ad s.heap.size) x0 hb hl hown (exF _ o3) exFs (hts _ (lwG_in hw1.1 rfl)) (hts _ (lwG_in hw1.2 rfl)) hsa (fun w hw => (exA _ o3 w hw).elim (fun h => hts w (lwG_in h.1 h.2)) (fun h => h.elim (fun h => by rw [h]; exact va_Nw.use rfl (hG.2.2.2.2.2.2.2.1 x hx3)) (fun h => by obtain ⟨n9, hn9, rfl⟩ := List.mem_map.mp h; exact va_Nw.use rfl (hG.2.2.2.2.2.2.2.2 n9 hn9)))) (exO _ o3) hG.1 hG.2.1 hW.2.2 (by rw [hsz, hml]) d0 d3 d4 d6 d9 ?_ (by show 2 + 3 < _; omega) (by show 0 + (13 * (2 + 1) + 43) ≤ _; omega) (by omega) (by omega) hlk ?_ hW.2.2.2.2 (by omega) (by omega)
    · rw [hT.1 o2]
      intro z hz
      cases hz
    · intro t hvm hsz1 hq1
      refine ⟨⟨x, ho, hx3, rfl⟩, ?_, ?_, ?_⟩
      · exact hW.1.kept (fun k9 z hz => hq1 z.1 ((hW.1 k9 z hz).lt))
      · exact Nat.le_trans hW.2.2.1 hsz1
      · intro q h1 h2
        rw [hq1 q (Nat.lt_of_lt_of_le h1 hW.2.2.1)]
        exact hW.2.2.2.1 q h1 h2
  · intro x pc ls H locs rest q ce ho hx3 h0 hce hcv hcl hW
    have hh0 : mHh y = none := by
      cases hh : mHh y with
      | none => rfl
      | some hh' => rw [hh, h0] at k3; cases k3
    refine vx_out (E := exN x) (by rw [hT.1 hh0]; intro z hz; cases hz) hlk hce hcv hcl (fun t ht hvm => ⟨⟨x, ho, hx3, rfl⟩, hcB t ht hW⟩) hW.2.2.2.2 (Nat.le_refl _) (Nat.le_refl _)
  · intro h pc pt cells slots L ls H locs rest q ce hm htb hpt hce hcv hcl hL kk
    have hne : mHn y ≠ [] := List.ne_nil_of_mem hm
    have ho9 : mOw y = 9 := k4.resolve_left hne
    rw [ho9, RL_own] at hown
    obtain ⟨hh, hhh⟩ : ∃ hh, mHh y = some hh := by
      cases hh : mHh y with
      | none =>
        rw [hh] at k3
        have : (mHn y).isEmpty = true := by simpa using k3.symm
        exact absurd (List.isEmpty_iff.mp this) hne
      | some hh' => exact ⟨hh', rfl⟩
    have htab := hT.2 hh hhh
    unfold hnT at k1
    rw [hhh] at k1
    dsimp only at k1
    obtain ⟨pre, suf, hsp⟩ := List.append_of_mem hm
    rw [hsp, List.map_append, List.map_cons] at k1
    obtain ⟨hpre, hrst, hh1, hh2, hh3⟩ := List.map_eq_append_iff.mp k1
    obtain ⟨x, hsuf, hh4, hh5, hh6⟩ := List.map_eq_cons_iff.mp hh3
    subst hh1
    subst hh4
    unfold tbOk at htb
    rw [hhh] at htb
    dsimp only at htb
    rw [List.all_eq_true] at htb
    have hxin := htb x (List.mem_append_right _ List.mem_cons_self)
    simp only [Bool.and_eq_true, decide_eq_true_eq] at hxin
    have hh5a : x.2.2.1 = h.2.1 := congrArg Prod.fst hh5
    have hh5b : x.2.2.2 = ctI h.1 := congrArg Prod.snd hh5
    have hk2 := k2 h hm
    have hc3 := ctW h.1 hk2.1.1
    rw [hsp, List.map_append, List.map_cons] at k5
    refine vx_catch (own := RL) (name := exN h.1) (E := exN h.1) hown (tableOf hpre) ⟨x.1, x.2.1, x.2.2.1, x.2.2.2⟩ (tableOf hsuf) (by rw [htab]; simp [tableOf]) ?_ (by simp [covers, hxin.1, hxin.2]) (by show x.2.2.2 ≠ 0; rw [hh5b]; exact hc3.2.2) (by show (Jvm.Cond.classLink RL x.2.2.2 (exN h.1)).before args s = true; rw [hh5b]; exact hts _ (lwG_in hc3.1 rfl)) (va_Nw.use rfl (hG.2.2.2.2.2.2.2.1 h.1 hk2.1.1)) hce hcv hcl ?_
    · intro z hz
      refine Or.inr ?_
      obtain ⟨w, hw, rfl⟩ := List.mem_map.mp hz
      have hw2 : (w.2.2.1, w.2.2.2) ∈ pre.map (fun h => (h.2.1, ctI h.1)) := by rw [← hh2]; exact List.mem_map.mpr ⟨w, hw, rfl⟩
      obtain ⟨g, hg, hg2⟩ := List.mem_map.mp hw2
      have hg3 : w.2.2.2 = ctI g.1 := (congrArg Prod.snd hg2).symm
      have hgm : g ∈ mHn y := by rw [hsp]; exact List.mem_append_left _ hg
      have hk9 := k2 g hgm
      have hc9 := ctW g.1 hk9.1.1
      have hne9 : h.1 ≠ g.1 := by
        have h8 := (List.nodup_append.mp k5).2.2
        exact fun q => h8 g.1 (List.mem_map.mpr ⟨g, hg, rfl⟩) h.1 List.mem_cons_self q.symm
      exact ⟨by show w.2.2.2 ≠ 0; rw [hg3]; exact hc9.2.2, exN g.1, by show (Jvm.Cond.classLink RL w.2.2.2 (exN g.1)).before args s = true; rw [hg3]; exact hts _ (lwG_in hc9.1 rfl), hG.2.2.2.2.2.1 h.1 g.1 hk2.1.1 hk9.1.1 hne9⟩
    · show W p l e R s m args below meth c H locs cells slots _ (F0 m x.2.2.1 ls [.ref q])
      rw [hh5a]
      have hi : h.2.2.1 < L.length := by rw [hL.2.1]; exact hk2.1.2
      have hfin : ∀ ls', lv_has ls' L.length (lvS (lvL ad L) h.2.2.1 (.ref q)) → W p l e R s m args below meth c H locs cells slots (vx_MQ below (cQ tc ad dC dI o Z (rg ad s.heap.size)) (cX tc ad dC dI o Z (rg ad s.heap.size)) args s mc ms (rg ad s.heap.size)) (F0 m pt ls' []) := fun ls' h' => kk ls' ⟨LR.setN hi h', by rw [List.length_set]; exact hL.2.1, set_vok hL.2.2 trivial⟩
      have hast := hk2.2
      unfold astOk at hast
      rw [hpt] at hast
      simp only [Bool.or_eq_true, Bool.and_eq_true, decide_eq_true_eq, Option.some.injEq] at hast
      rcases hast with ⟨⟨-, rfl⟩, hast⟩ | ⟨rfl, hast⟩
      · split at hast
        · next k hd =>
          simp only [decide_eq_true_eq] at hast
          exact lv_astore_n x0 hb hd hast hL.1.has hi rfl hfin
        · cases hast
      · split at hast
        · next k hd =>
          simp only [decide_eq_true_eq] at hast
          subst hast
          exact lv_astore x0 hb hd hL.1.has hi rfl hfin
        · cases hast
set_option maxHeartbeats 4000000 in
theorem ct_of {n : Nat} (hl : l.stackTraces = false) (hI : Sim l sc n) (d z : Nat) (as : List AV) (X : XT) (o : OUT) (Z : XT) (k : Nat) (hg : Go sc n d z 0 (ent z as) [] X o Z k) (hz : z < 168) (has : ∀ v ∈ as, vok v ∧ avc v = 1) (hn : as.length = mNa z) : Ct l sc tc ad dC dI d z as X o Z k := by
  intro sz
  have hds := mDs_ok z hz
  simp only [mDs, Bool.and_eq_true, decide_eq_true_eq] at hds
  obtain ⟨⟨⟨⟨⟨⟨⟨⟨d1, d2⟩, d3⟩, d4⟩, d5⟩, d6⟩, d7⟩, d8⟩, d9⟩ := hds
  have body : ∀ p e s m args below meth c s₁, BodyLoose p l (mNm z) (headSpec (wsY z) (rmY d k)) (mBy z) (mLo z) (mRt z) e s m args below meth c s₁ → c.maxLocals = mLo z → va_Pc (as.map (cv ad)) (cP sc tc ad dC dI X sz) args s →
      W p l e (headSpec (wsY z) (rmY d k)).room s m args below meth c s.heap [] 0 0 (vx_MQ below (cQ tc ad dC dI o Z (rg ad sz)) (cX tc ad dC dI o Z (rg ad sz)) args s k (6 * k) (rg ad sz)) (entryFrame m args (mLo z)) := by
    intro p e s m args below meth c s₁ B hml hv
    obtain ⟨rfl, rfl, hP, hK, hD, hG⟩ := hv
    have hts0 := atoms_spec (ws := wsY z) B.pre
    have hts : ∀ w ∈ lwG, w.before ((as.map (cv ad)).toArray) s = true := fun w hw => hts0 w (List.mem_cons_of_mem _ hw)
    have hown : s.vm.findClass (ownS (mOw z)) = some m.cls := by rw [d8]; exact findClass_of_methodNamed B.named
    have C0 : Cx p s m ((as.map (cv ad)).toArray) meth c z sc tc ad dC dI (rg ad s.heap.size) := ⟨B.exec, B.bytes, hml, B.returns, B.notSynchronized, hown, hts, hK, fun q hq => Or.inr hq, hG⟩
    have hcw : (mCw z).before ((as.map (cv ad)).toArray) s = true := hts0 _ List.mem_cons_self
    have hT : (mHh z = none → c.exceptionTable.toList = []) ∧ ∀ hh, mHh z = some hh → c.exceptionTable.toList = tableOf hh := by
      refine ⟨fun h0 => ?_, fun hh h0 => ?_⟩
      · unfold mCw at hcw
        rw [h0] at hcw
        obtain ⟨meth9, c9, h1, h2, -, -, -, -, h7, -⟩ := Cond.code_spec B.named hcw
        cases Option.some.inj (h1.symm.trans B.method)
        cases Option.some.inj (h2.symm.trans (Stand.of_body B).code)
        simpa using h7
      · unfold mCw at hcw
        rw [h0] at hcw
        exact vx_table (x := mNm z) B hcw
    have hE := En_met (R := (headSpec (wsY z) (rmY d k)).room) (e := e) (below := below) (o := o) (Z := Z) (mc := k) (ms := 6 * k) hl (by omega : z < 169) C0 (by show 8 ≤ d + 8; omega) (by show 200 ≤ 60 * d + 200; omega) (Nat.le_refl _) (Nat.le_refl _) hT
    have hW0 := hI d z 0 (ent z as) [] X o Z k hg C0 (Nat.le_refl _) (Nat.le_refl _) (Nat.zero_add k) (Nat.zero_add (6 * k)) (Nat.le_refl _) (Nat.le_refl _) hE 0 d9
    have hlen := lg_sl1 (ad := ad) as (fun v hv => (has v hv).2)
    have hle : (lg_sl (as.map (cv ad))).length ≤ mLo z := by rw [hlen, hn]; exact d6
    have hl9 := lv_entry (as.map (cv ad)) hle
    rw [lg_entry_eq]
    refine hW0 _ s.heap [] ⟨hP, ⟨hD.1, fun k9 q hq => ?_⟩, va_S.rf⟩ ⟨⟨?_, hl9.2.1, fun i v hv h1 => ?_⟩, ?_, fun v hv => ?_⟩ (fun v hv => nomatch hv)
    · obtain ⟨q', h2, rfl⟩ := wW_ad hq
      exact Or.inl ⟨q', List.mem_of_getElem? h2, rfl⟩
    · rw [hl9.1]
      unfold ent
      rw [List.length_append, List.length_replicate]
      omega
    · unfold ent at hv
      by_cases hi : i < as.length
      · rw [List.getElem?_append_left hi] at hv
        have h8 := lv_args1 (ad := ad) as 0 (fun v hv => (has v hv).2) i v hv
        rw [Nat.zero_add] at h8
        exact hl9.2.2 _ h8
      · rw [List.getElem?_append_right (by omega)] at hv
        have h8 := List.eq_of_mem_replicate (List.mem_of_getElem? hv)
        subst h8
        cases h1
    · unfold ent
      rw [List.length_append, List.length_replicate]
      omega
    · unfold ent at hv
      rcases List.mem_append.mp hv with h | h
      · exact (has v h).1
      · rw [List.eq_of_mem_replicate h]
        trivial
  cases hh : mHh z with
  | none =>
    have hcode : mCw z = .code (mNm z) (mBy z) (mLo z) (mRt z) := by unfold mCw; rw [hh]
    exact vx_ofW d4 (show wsY z = Jvm.Cond.code (mNm z) (mBy z) (mLo z) (mRt z) :: lwG from by unfold wsY; rw [hcode]) (fun p e s m args below meth c s₁ B hml _ hv => body p e s m args below meth c s₁ B hml hv)
  | some h9 =>
    have hcode : mCw z = .codeWith (mNm z) (mBy z) (mLo z) (mRt z) h9 := by unfold mCw; rw [hh]
    exact vx_ofWH d4 (show wsY z = Jvm.Cond.codeWith (mNm z) (mBy z) (mLo z) (mRt z) h9 :: lwG from by unfold wsY; rw [hcode]) body
theorem sim_all (hl : l.stackTraces = false) : ∀ n, Sim l sc n := by
  intro n
  induction n with
  | zero =>
    intro d y i L S X o Z k h
    exact h.elim
  | succ n ih =>
    intro d y i L S X o Z k h p e R s m args below meth c cells slots mc ms Q tc ad dC dI A C0 hfr hlo hmc hms hRc hRs hE pc hpc
    obtain ⟨sg, hsg, L', S', X', P, hx, hP, hT⟩ := h
    have hy := code_lt hsg
    have ok := List.all_eq_true.mp (okY_all y hy) sg (List.mem_of_getElem? hsg)
    simp only [Bool.and_eq_true] at ok
    have e1 : pc = sg.1 := by
      unfold sPc at hpc
      rw [hsg] at hpc
      exact (Option.some.inj hpc).symm
    subst e1
    exact simOps C0 ⟨by omega, by omega, by omega, by omega⟩ sg.2.1 ok.1 hx hP (simTm (fun d z as X o Z k => ct_of hl ih d z as X o Z k) ih hT hy ok.2 C0 hfr hlo hmc hms hRc hRs hE)
end Cts
