/-! making the objects: what all constructors share -/
section Mk0
def nestQ : List (String × Nat × MethodName) := [(RX7, 17, yX5_init), (RX7, 24, yX6_init), (RX7, 31, yX3_init), (RX7, 38, yX4_init), (RX7, 47, yX0_init), (RX3, 11, yX1_init), (RX4, 9, yX1_init)]
/-- what the constructors link beside the good words -/
def NW (U : State) : Prop := va_AOA .int U ∧ va_AO RX0 U ∧ ∀ q ∈ nestQ, va_Nw (.methodLinkNest q.1 q.2.1 q.2.2 RX7) U
theorem nw_O {ty : FieldType} {s U : State} (hv : s.vm.Alike U.vm) (h : (Cond.arrayOver ty).before #[] s = true) : (Cond.arrayOver ty).before #[] U = true := by
  have e : (Cond.arrayOver ty).before #[] U = (Cond.arrayOver ty).before #[] (s.setVm U.vm) := rfl
  rw [e, Cond.arrayOver_setVmC hv]
  exact h
theorem NW.warm {s U : State} (hW : s.WarmedH U.vm) (h : NW s) : NW U := ⟨nw_O hW.alike h.1, nw_O hW.alike h.2.1, fun q hq => va_Nw.warmM hW (h.2.2 q hq)⟩
theorem NW.same {u U : State} (hv : u.vm = U.vm) (h : NW u) : NW U := by
  have ha : u.vm.Alike U.vm := by rw [hv]; exact Vm.Alike.refl U.vm
  exact ⟨nw_O ha h.1, nw_O ha h.2.1, fun q hq => va_Nw.same rfl hv (h.2.2 q hq)⟩
variable {tc : Nat → ClassId} {D : va_G} {cl : List vw_C} {s : State} {cA : ClassId}
theorem tc_0 (hK : va_K D cl (tyW tc) s) (h1 : va_K D cl (tyW tc ++ [(cA, .int)]) s) : cA = tc 0 := by
  have a1 : s.vm.findClass ("[" ++ FieldType.int.toString) = some cA := (h1.2 4 (cA, .int) rfl).2
  have a2 : s.vm.findClass ("[" ++ FieldType.int.toString) = some (tc 0) := (hK.2 0 (tc 0, .int) rfl).2
  exact Option.some.inj (a1.symm.trans a2)
theorem tc_1 (hK : va_K D cl (tyW tc) s) (h1 : va_K D cl (tyW tc ++ [(cA, .array .int)]) s) : cA = tc 1 := by
  have a1 : s.vm.findClass ("[" ++ (FieldType.array .int).toString) = some cA := (h1.2 4 (cA, .array .int) rfl).2
  have a2 : s.vm.findClass ("[" ++ (FieldType.array .int).toString) = some (tc 1) := (hK.2 1 (tc 1, .array .int) rfl).2
  exact Option.some.inj (a1.symm.trans a2)
theorem tc_2 (hK : va_K D cl (tyW tc) s) (h1 : va_K D cl (tyW tc ++ [(cA, .object RX0)]) s) : cA = tc 2 := by
  obtain ⟨k1, c1, -, -, -, a1⟩ := (h1.2 4 (cA, .object RX0) rfl).2
  obtain ⟨k2, c2, -, -, -, a2⟩ := (hK.2 2 (tc 2, .object RX0) rfl).2
  exact Option.some.inj (a1.symm.trans a2)
theorem tc_3 (hK : va_K D cl (tyW tc) s) (h1 : va_K D cl (tyW tc ++ [(cA, .long)]) s) : cA = tc 3 := by
  have a1 : s.vm.findClass ("[" ++ FieldType.long.toString) = some cA := (h1.2 4 (cA, .long) rfl).2
  have a2 : s.vm.findClass ("[" ++ FieldType.long.toString) = some (tc 3) := (hK.2 3 (tc 3, .long) rfl).2
  exact Option.some.inj (a1.symm.trans a2)
theorem tc_in (hK : va_K D cl (tyW tc) s) : s.vm.findClass (FieldType.array .int).toString = some (tc 0) := (hK.2 0 (tc 0, .int) rfl).2
/-- a row of n zeros -/
def zF (n : Nat) : Nat → Int32 := fun j => if j < n then 0 else 0
abbrev zE (tc : Nat → ClassId) (n : Nat) : va_E := .inl (tc 0, n, .inl (zF n))
theorem zF_c (n : Nat) : ∀ cA : ClassId, vp_cell cA (n, .inl (zF n)) = arrV cA n (fun _ => defaultValue .int) := fun cA => by
  rw [vp_cell_i]
  refine congrArg (arrV cA n) (funext fun j => ?_)
  unfold zF
  split <;> rfl
theorem zF_m (n : Nat) : ∀ cA : ClassId, Jvm.Free.Multi.innerC cA n (defaultValue .int) = vp_cell cA (n, .inl (zF n)) := fun cA => by
  rw [zF_c]
  exact arrV_new cA n (defaultValue .int)
/-- references to rows, by ints -/
abbrev rE (tc : Nat → ClassId) (t n : Nat) (f : Nat → Nat) : va_E := .inl (tc t, n, .inr (.inr (.inr (.inr (fun j => if j < n then some (f (nI j).toNatClampNeg) else none)))))
theorem rF_n {n : Nat} (hn : n < 1000) (f : Nat → Nat) : (fun i => if i < n then some (f i) else none) = (fun j => if j < n then some (f (nI j).toNatClampNeg) else none) := by
  funext j
  by_cases h : j < n
  · rw [if_pos h, if_pos h, nI_clamp (by omega)]
  · rw [if_neg h, if_neg h]
abbrev rwW (e : va_E) (n : Nat) (f : Nat → Nat) : va_W := ((List.range n).map f).map (fun a => (a, e))
/-- the last of a world -/
theorem la_P {W : va_W} {x : Nat × va_E} {H : Heap} (hP : va_P D cl (W ++ [x]) H) : va_P D cl [x] H := fun k q h => by
  have h0 : k < 1 := (List.getElem?_eq_some_iff.mp h).1
  obtain rfl : k = 0 := by omega
  exact hP W.length q (by rw [List.getElem?_append_right (Nat.le_refl _), Nat.sub_self]; exact h)
theorem la_D {W : va_W} {x : Nat × va_E} {A : Nat → Prop} (hD : va_D A (W ++ [x])) : va_D (fun _ => True) [x] := by
  refine ⟨fun i j p q hi hj _ => ?_, fun _ _ _ => trivial⟩
  have h0 : i < 1 := (List.getElem?_eq_some_iff.mp hi).1
  have h1 : j < 1 := (List.getElem?_eq_some_iff.mp hj).1
  omega
theorem la_A {W : va_W} {x : Nat × va_E} {A : Nat → Prop} {H0 H : Heap} {locs : List Loc} (hD : va_D A (W ++ [x])) (hS : va_S A H0 H locs) (hA : ∀ q, H0.size ≤ q → A q) : ∀ q, va_A [x] H.size q → A q := by
  rintro q (⟨k, e, h⟩ | h)
  · have h0 : k < 1 := (List.getElem?_eq_some_iff.mp h).1
    obtain rfl : k = 0 := by omega
    exact hD.2 W.length (q, e) (by rw [List.getElem?_append_right (Nat.le_refl _), Nat.sub_self]; exact h)
  · exact hA q (Nat.le_trans hS.1 h)
theorem la_join {A0 : Nat → Prop} {W w1 : va_W} {x : Nat × va_E} {H H1 : Heap} (hP : va_P D cl (W ++ [x]) H) (hD : va_D A0 (W ++ [x])) (hk : ∀ q : Nat, q < H.size → ¬ va_A [x] H.size q → H1[q]? = H[q]?) (hF : ∀ q, va_A [x] H.size q → A0 q) (hP1 : va_P D cl w1 H1) (hD1 : va_D (va_A [x] H.size) w1) : va_P D cl (W ++ w1) H1 ∧ va_D A0 (W ++ w1) := by
  have hx : (W ++ [x])[W.length]? = some x := by rw [List.getElem?_append_right (Nat.le_refl _), Nat.sub_self]; rfl
  have hW : ∀ (k : Nat) (q : Nat × va_E), W[k]? = some q → (W ++ [x])[k]? = some q := fun k q h => by rw [List.getElem?_append_left (List.getElem?_eq_some_iff.mp h).1]; exact h
  have hlt : ∀ (k : Nat) (q : Nat × va_E), W[k]? = some q → q.1 < H.size := fun k q h => (hP k q (hW k q h)).lt
  have hnA : ∀ (k : Nat) (q : Nat × va_E), W[k]? = some q → ¬ va_A [x] H.size q.1 := fun k q h => by
    rintro (⟨j, e, hj⟩ | h2)
    · have h0 : j < 1 := (List.getElem?_eq_some_iff.mp hj).1
      obtain rfl : j = 0 := by omega
      have hxe : x = (q.1, e) := Option.some.inj hj
      have := hD.1 k W.length q x (hW k q h) hx (by rw [hxe])
      have := (List.getElem?_eq_some_iff.mp h).1
      omega
    · have := hlt k q h
      omega
  constructor
  · intro k q h
    by_cases hk' : k < W.length
    · rw [List.getElem?_append_left hk'] at h
      exact (hP k q (hW k q h)).kept (hk _ (hlt k q h) (hnA k q h))
    · rw [List.getElem?_append_right (by omega)] at h
      exact hP1 _ q h
  · refine ⟨fun i j p q hi hj e => ?_, fun k q h => ?_⟩
    · by_cases h1 : i < W.length <;> by_cases h2 : j < W.length
      · rw [List.getElem?_append_left h1] at hi
        rw [List.getElem?_append_left h2] at hj
        exact hD.1 i j p q (hW i p hi) (hW j q hj) e
      · rw [List.getElem?_append_left h1] at hi
        rw [List.getElem?_append_right (by omega)] at hj
        exact absurd (by rw [e]; exact hD1.2 _ q hj) (hnA i p hi)
      · rw [List.getElem?_append_right (by omega)] at hi
        rw [List.getElem?_append_left h2] at hj
        exact absurd (by rw [← e]; exact hD1.2 _ p hi) (hnA j q hj)
      · rw [List.getElem?_append_right (by omega)] at hi hj
        have := hD1.1 _ _ p q hi hj e
        omega
    · by_cases hk' : k < W.length
      · rw [List.getElem?_append_left hk'] at h
        exact hD.2 k q (hW k q h)
      · rw [List.getElem?_append_right (by omega)] at h
        exact hF _ (hD1.2 _ q h)
/-- a constructor's start -/
def prC (tc : Nat → ClassId) (dC : Nat → ClassId) (dI : Nat → Nat → Nat) (h : Nat) (e : va_E) (sz : Nat) (U : State) : Prop := U.heap.size = sz ∧ va_P (dC, dI) vwCl [(h, e)] U.heap ∧ va_K (dC, dI) vwCl (tyW tc) U ∧ va_D (fun _ => True) [(h, e)] ∧ NW U
theorem prC_pre {dC : Nat → ClassId} {dI : Nat → Nat → Nat} {W : va_W} {h : Nat} {e : va_E} {H : Heap} {A : Nat → Prop} {As : List Value} (hP : va_P (dC, dI) vwCl (W ++ [(h, e)]) H) (hD : va_D A (W ++ [(h, e)])) (hK : va_K (dC, dI) vwCl (tyW tc) s) (hN : NW s) : PreS s H (va_Pc (.ref h :: As) (prC tc dC dI h e H.size)) (.ref h :: As) := by
  refine ⟨fun a U g mk q => ?_, fun U hU hW => ⟨rfl, by rw [hU], by rw [hU]; exact la_P hP, va_K.moved hW.alike hK, la_D hD, hN.warm hW⟩⟩
  obtain ⟨q0, q1, qP, qK, qD, qN⟩ := q
  exact ⟨q0, q1, qP, va_K.moved (u := U) (U := U.calling g mk a) (Vm.Alike.refl U.vm) qK, qD, qN.same rfl⟩
/-- a constructor's contract -/
abbrev CtC (l : Launch) (tc : Nat → ClassId) (dC : Nat → ClassId) (dI : Nat → Nat → Nat) (y : MethodName) (ws : List Jvm.Cond) (rm : Room) (e : va_E) (S : Type) (cells : Nat → S → va_W) (As : List Value) (mc ms : Nat) : Prop := ∀ h sz : Nat, Met l y ws rm (va_Pc (.ref h :: As) (prC tc dC dI h e sz)) (va_Qv (fun _ : S => True) (fun u t => va_P (dC, dI) vwCl (cells h u) t.heap ∧ va_D (va_A [(h, e)] sz) (cells h u)) (va_A [(h, e)] sz)) mc ms (va_A [(h, e)] sz)
theorem good_ct {a c : Jvm.Cond} (h : c ∈ lw_tbl) (hg : goodWord c = true) : GoodIn (a :: lwG) (c :: lwG) := fun w hw => by
  rcases List.mem_cons.mp hw with rfl | hw
  · exact ⟨List.mem_cons_of_mem _ (lwG_in h hg), good_of_word hg⟩
  · exact ⟨List.mem_cons_of_mem _ hw, good_of_word (List.mem_filter.mp hw).2⟩
end Mk0

section Mk1
abbrev oGW (tc : Nat → ClassId) (h : Nat) (u : Nat × Nat × Nat × Nat × (Nat → Nat)) : va_W := (h, .inr (0, [.ref u.1, .ref u.2.1, .ref u.2.2.1, .ref u.2.2.2.1, .int 0, .int 0])) :: ([(u.1, rE tc 1 5 u.2.2.2.2)] ++ rwW (zE tc 5) 5 u.2.2.2.2 ++ [(u.2.1, zE tc 5)] ++ [(u.2.2.1, zE tc 5)] ++ [(u.2.2.2.1, zE tc 5)])
abbrev oLW (tc : Nat → ClassId) (h : Nat) (u : Nat × Nat) : va_W := (h, .inr (1, [.ref u.1, .ref u.2])) :: ([(u.1, zE tc 10)] ++ [(u.2, zE tc 10)])
set_option maxHeartbeats 4000000 in
set_option maxRecDepth 100000 in
theorem ct_X0 (l : Launch) (tc dC : Nat → ClassId) (dI : Nat → Nat → Nat) : CtC l tc dC dI yX0_init (Jvm.Cond.code yX0_init cX0_init 1 none :: lwG) ({ frames := 2, cells := 9, slots := 45, locals := 20 } : Room) (.inr (0, [.null, .null, .null, .null, .int 0, .int 0])) (Nat × Nat × Nat × Nat × (Nat → Nat)) (oGW tc) [] 9 45 := by
  intro h sz
  refine Met.ofW (cc := cX0_init) (maxL := 1) (ret := none) (by decide) rfl ?_
  intro p e s m args below meth c s₁ B hml hv
  obtain ⟨rfl, hsz, hP, hK, hD0, hN⟩ := hv
  have hx := B.exec
  have hb := B.bytes
  have hr := B.returns
  have hts := atoms_spec (ws := Jvm.Cond.code yX0_init cX0_init 1 none :: lwG) B.pre
  have ht : ∀ w, w ∈ lw_tbl → goodWord w = true → w.before (([.ref h] : List Value).toArray) s = true := fun w h1 h2 => hts w (List.mem_cons_of_mem _ (lwG_in h1 h2))
  have hown : s.vm.findClass RX0 = some m.cls := findClass_of_methodNamed B.named
  have hlocks := B.notSynchronized
  have hin : meth.name = "<init>" := (name_of_methodNamed B.named B.method).1
  subst hsz
  have hD := hD0.self (sz := s.heap.size)
  generalize hAe : va_A [(h, .inr (0, [.null, .null, .null, .null, .int 0, .int 0]))] s.heap.size = A at hD ⊢
  have hA : ∀ q : Nat, s.heap.size ≤ q → A q := fun q h => by rw [← hAe]; exact Or.inr h
  have hS : va_S A s.heap s.heap [] := va_S.rf
  have hl := lv_entry ([.ref h]) (n := 1) (Nat.le_of_ble_eq_true rfl)
  rw [lg_entry_eq]
  generalize (lg_sl ([.ref h]) ++ List.replicate (1 - (lg_sl ([.ref h])).length) Slot.unset).toArray = ls at hl ⊢
  have hl : lv_has ls 1 [(0, .ref h)] := hl
  have hP : va_P (dC, dI) vwCl ((h, .inr (0, [.null, .null, .null, .null, .int 0, .int 0])) :: ([] : va_W)) s.heap := hP
  have hD : va_D A ((h, .inr (0, [.null, .null, .null, .null, .int 0, .int 0])) :: ([] : va_W)) := hD
  refine lv_aload_n hx hb dX0_init_0 rfl (lv_at hl 0 rfl) ?_
  refine W.objInit hx hb hown (ht (.methodLink RX0 3 objectInit) (by decide +kernel) rfl) (ht (.instanceMethod objectInit) (by decide +kernel) rfl) (ht (.code objectInit ⟨#[0xb1]⟩ 1 none) (by decide +kernel) rfl) rfl (by rw [hml]; exact hl.1) rfl dX0_init_1 (Nat.le_of_ble_eq_true rfl) (Nat.le_of_ble_eq_true rfl) ?_
  refine W.eq (g2 := F0 m 4 ls []) rfl ?_
  refine lv_aload_n hx hb dX0_init_4 rfl (lv_at hl 0 rfl) ?_
  refine lv_iconst (v := 5) hx hb dX0_init_5 (by decide) ?_
  refine lv_iconst (v := 5) hx hb dX0_init_6 (by decide) ?_
  refine va_mna (X := ((h, .inr (0, [.null, .null, .null, .null, .int 0, .int 0])) :: ([] : va_W))) (L := []) (f := fun _ => zE tc 0) (z := (5, .inl (zF 5))) (N' := 5) (K' := 5) (ty := .int) hx hb hown (ht (.classLink RX0 9 "[[I") (by decide +kernel) rfl) hN.1 (ht (.arrayClass .int) (by decide +kernel) rfl) (tc_in hK) hK (by rw [show va_pl [] (fun _ => zE tc 0) = [] from rfl, List.append_nil]; exact hP) (by rw [show va_pl [] (fun _ => zE tc 0) = [] from rfl, List.append_nil]; exact hD) hS hA (by decide) (by decide) rfl rfl (Nat.le_of_ble_eq_true rfl) (Nat.le_of_ble_eq_true rfl) (Nat.le_of_ble_eq_true rfl) rfl rfl (Nat.le_of_ble_eq_true rfl) (Nat.le_of_ble_eq_true rfl) (zF_m 5) dX0_init_7 (fun q f cA H _ _ hK1 hP hD hS => ?_)
  obtain rfl := tc_1 hK hK1
  rw [← vr_rows (L := []) (fun _ _ => List.not_mem_nil), show va_pl [] (fun _ => zE tc 0) = [] from rfl, List.nil_append, rF_n (by decide) f] at hP hD
  have hP : va_P (dC, dI) vwCl ((h, .inr (0, [.null, .null, .null, .null, .int 0, .int 0])) :: ([(q, rE tc 1 5 f)] ++ rwW (zE tc 5) 5 f : va_W)) H := hP
  have hD : va_D A ((h, .inr (0, [.null, .null, .null, .null, .int 0, .int 0])) :: ([(q, rE tc 1 5 f)] ++ rwW (zE tc 5) 5 f : va_W)) := hD
  refine W.widen (k := 6) (n := 30) (by omega) (by omega) ?_
  refine va_putF (D := (dC, dI)) (ci := 0) (v := .ref q) (ty := .array (.array .int)) (C := RX0) (T := TX0) (N := 6) hx hb hts (fun w hw => List.mem_cons_of_mem _ (lwG_in (inX0 w hw) (u_good w hw))) tyX0 tyX0_ok nmX0 hown hK hP hD hS 0 rfl rfl 0 (by decide) (ht (.fieldLink RX0 11 "GroupTables$Group" "scored" "[[I") (by decide +kernel) rfl) (fun _ h9 => h9) rfl hin rfl (by decide +kernel) rfl rfl (Nat.le_of_ble_eq_true rfl) dX0_init_11 (fun H locs hP hD hS => ?_)
  have hP : va_P (dC, dI) vwCl ((h, .inr (0, [.ref q, .null, .null, .null, .int 0, .int 0])) :: ([(q, rE tc 1 5 f)] ++ rwW (zE tc 5) 5 f : va_W)) H := hP
  have hD : va_D A ((h, .inr (0, [.ref q, .null, .null, .null, .int 0, .int 0])) :: ([(q, rE tc 1 5 f)] ++ rwW (zE tc 5) 5 f : va_W)) := hD
  refine lv_aload_n hx hb dX0_init_14 rfl (lv_at hl 0 rfl) ?_
  refine lv_iconst (v := 5) hx hb dX0_init_15 (by decide) ?_
  refine va_newa (ty := .int) (atype := .int) (a0 := (5, .inl (zF 5))) (N' := 5) hx hb (ht (.arrayClass .int) (by decide +kernel) rfl) rfl hK hP hD hS hA (zF_c 5) (by decide) rfl (Nat.le_of_ble_eq_true rfl) (Nat.le_of_ble_eq_true rfl) (Nat.le_of_ble_eq_true rfl) dX0_init_16 (fun a1 cA H hK1 hP hD hS => ?_)
  obtain rfl := tc_0 hK hK1
  have hP : va_P (dC, dI) vwCl ((h, .inr (0, [.ref q, .null, .null, .null, .int 0, .int 0])) :: ([(q, rE tc 1 5 f)] ++ rwW (zE tc 5) 5 f ++ [(a1, zE tc 5)] : va_W)) H := hP
  have hD : va_D A ((h, .inr (0, [.ref q, .null, .null, .null, .int 0, .int 0])) :: ([(q, rE tc 1 5 f)] ++ rwW (zE tc 5) 5 f ++ [(a1, zE tc 5)] : va_W)) := hD
  refine W.widen (k := 7) (n := 35) (by omega) (by omega) ?_
  refine va_putF (D := (dC, dI)) (ci := 0) (v := .ref a1) (ty := .array .int) (C := RX0) (T := TX0) (N := 6) hx hb hts (fun w hw => List.mem_cons_of_mem _ (lwG_in (inX0 w hw) (u_good w hw))) tyX0 tyX0_ok nmX0 hown hK hP hD hS 0 rfl rfl 1 (by decide) (ht (.fieldLink RX0 16 "GroupTables$Group" "taken" "[I") (by decide +kernel) rfl) (fun _ h9 => h9) rfl hin rfl (by decide +kernel) rfl rfl (Nat.le_of_ble_eq_true rfl) dX0_init_18 (fun H locs hP hD hS => ?_)
  have hP : va_P (dC, dI) vwCl ((h, .inr (0, [.ref q, .ref a1, .null, .null, .int 0, .int 0])) :: ([(q, rE tc 1 5 f)] ++ rwW (zE tc 5) 5 f ++ [(a1, zE tc 5)] : va_W)) H := hP
  have hD : va_D A ((h, .inr (0, [.ref q, .ref a1, .null, .null, .int 0, .int 0])) :: ([(q, rE tc 1 5 f)] ++ rwW (zE tc 5) 5 f ++ [(a1, zE tc 5)] : va_W)) := hD
  refine lv_aload_n hx hb dX0_init_21 rfl (lv_at hl 0 rfl) ?_
  refine lv_iconst (v := 5) hx hb dX0_init_22 (by decide) ?_
  refine va_newa (ty := .int) (atype := .int) (a0 := (5, .inl (zF 5))) (N' := 5) hx hb (ht (.arrayClass .int) (by decide +kernel) rfl) rfl hK hP hD hS hA (zF_c 5) (by decide) rfl (Nat.le_of_ble_eq_true rfl) (Nat.le_of_ble_eq_true rfl) (Nat.le_of_ble_eq_true rfl) dX0_init_23 (fun a2 cA H hK1 hP hD hS => ?_)
  obtain rfl := tc_0 hK hK1
  have hP : va_P (dC, dI) vwCl ((h, .inr (0, [.ref q, .ref a1, .null, .null, .int 0, .int 0])) :: ([(q, rE tc 1 5 f)] ++ rwW (zE tc 5) 5 f ++ [(a1, zE tc 5)] ++ [(a2, zE tc 5)] : va_W)) H := hP
  have hD : va_D A ((h, .inr (0, [.ref q, .ref a1, .null, .null, .int 0, .int 0])) :: ([(q, rE tc 1 5 f)] ++ rwW (zE tc 5) 5 f ++ [(a1, zE tc 5)] ++ [(a2, zE tc 5)] : va_W)) := hD
  refine W.widen (k := 8) (n := 40) (by omega) (by omega) ?_
  refine va_putF (D := (dC, dI)) (ci := 0) (v := .ref a2) (ty := .array .int) (C := RX0) (T := TX0) (N := 6) hx hb hts (fun w hw => List.mem_cons_of_mem _ (lwG_in (inX0 w hw) (u_good w hw))) tyX0 tyX0_ok nmX0 hown hK hP hD hS 0 rfl rfl 2 (by decide) (ht (.fieldLink RX0 20 "GroupTables$Group" "cards" "[I") (by decide +kernel) rfl) (fun _ h9 => h9) rfl hin rfl (by decide +kernel) rfl rfl (Nat.le_of_ble_eq_true rfl) dX0_init_25 (fun H locs hP hD hS => ?_)
  have hP : va_P (dC, dI) vwCl ((h, .inr (0, [.ref q, .ref a1, .ref a2, .null, .int 0, .int 0])) :: ([(q, rE tc 1 5 f)] ++ rwW (zE tc 5) 5 f ++ [(a1, zE tc 5)] ++ [(a2, zE tc 5)] : va_W)) H := hP
  have hD : va_D A ((h, .inr (0, [.ref q, .ref a1, .ref a2, .null, .int 0, .int 0])) :: ([(q, rE tc 1 5 f)] ++ rwW (zE tc 5) 5 f ++ [(a1, zE tc 5)] ++ [(a2, zE tc 5)] : va_W)) := hD
  refine lv_aload_n hx hb dX0_init_28 rfl (lv_at hl 0 rfl) ?_
  refine lv_iconst (v := 5) hx hb dX0_init_29 (by decide) ?_
  refine va_newa (ty := .int) (atype := .int) (a0 := (5, .inl (zF 5))) (N' := 5) hx hb (ht (.arrayClass .int) (by decide +kernel) rfl) rfl hK hP hD hS hA (zF_c 5) (by decide) rfl (Nat.le_of_ble_eq_true rfl) (Nat.le_of_ble_eq_true rfl) (Nat.le_of_ble_eq_true rfl) dX0_init_30 (fun a3 cA H hK1 hP hD hS => ?_)
  obtain rfl := tc_0 hK hK1
  have hP : va_P (dC, dI) vwCl ((h, .inr (0, [.ref q, .ref a1, .ref a2, .null, .int 0, .int 0])) :: ([(q, rE tc 1 5 f)] ++ rwW (zE tc 5) 5 f ++ [(a1, zE tc 5)] ++ [(a2, zE tc 5)] ++ [(a3, zE tc 5)] : va_W)) H := hP
  have hD : va_D A ((h, .inr (0, [.ref q, .ref a1, .ref a2, .null, .int 0, .int 0])) :: ([(q, rE tc 1 5 f)] ++ rwW (zE tc 5) 5 f ++ [(a1, zE tc 5)] ++ [(a2, zE tc 5)] ++ [(a3, zE tc 5)] : va_W)) := hD
  refine W.widen (k := 9) (n := 45) (by omega) (by omega) ?_
  refine va_putF (D := (dC, dI)) (ci := 0) (v := .ref a3) (ty := .array .int) (C := RX0) (T := TX0) (N := 6) hx hb hts (fun w hw => List.mem_cons_of_mem _ (lwG_in (inX0 w hw) (u_good w hw))) tyX0 tyX0_ok nmX0 hown hK hP hD hS 0 rfl rfl 3 (by decide) (ht (.fieldLink RX0 23 "GroupTables$Group" "lots" "[I") (by decide +kernel) rfl) (fun _ h9 => h9) rfl hin rfl (by decide +kernel) rfl rfl (Nat.le_of_ble_eq_true rfl) dX0_init_32 (fun H locs hP hD hS => ?_)
  have hP : va_P (dC, dI) vwCl ((h, .inr (0, [.ref q, .ref a1, .ref a2, .ref a3, .int 0, .int 0])) :: ([(q, rE tc 1 5 f)] ++ rwW (zE tc 5) 5 f ++ [(a1, zE tc 5)] ++ [(a2, zE tc 5)] ++ [(a3, zE tc 5)] : va_W)) H := hP
  have hD : va_D A ((h, .inr (0, [.ref q, .ref a1, .ref a2, .ref a3, .int 0, .int 0])) :: ([(q, rE tc 1 5 f)] ++ rwW (zE tc 5) 5 f ++ [(a1, zE tc 5)] ++ [(a2, zE tc 5)] ++ [(a3, zE tc 5)] : va_W)) := hD
  refine W.widen (k := 9) (n := 45) (by omega) (by omega) ?_
  exact W.vret hx hb hr (fun t ht hW => ⟨⟨(q, a1, a2, a3, f), rfl, trivial, by rw [ht]; exact hP, hD⟩, hS.F ht⟩) hS.2.2 dX0_init_35
set_option maxHeartbeats 4000000 in
set_option maxRecDepth 100000 in
theorem ct_X1 (l : Launch) (tc dC : Nat → ClassId) (dI : Nat → Nat → Nat) : CtC l tc dC dI yX1_init (Jvm.Cond.code yX1_init cX1_init 1 none :: lwG) ({ frames := 2, cells := 2, slots := 20, locals := 20 } : Room) (.inr (1, [.null, .null])) (Nat × Nat) (oLW tc) [] 2 20 := by
  intro h sz
  refine Met.ofW (cc := cX1_init) (maxL := 1) (ret := none) (by decide) rfl ?_
  intro p e s m args below meth c s₁ B hml hv
  obtain ⟨rfl, hsz, hP, hK, hD0, hN⟩ := hv
  have hx := B.exec
  have hb := B.bytes
  have hr := B.returns
  have hts := atoms_spec (ws := Jvm.Cond.code yX1_init cX1_init 1 none :: lwG) B.pre
  have ht : ∀ w, w ∈ lw_tbl → goodWord w = true → w.before (([.ref h] : List Value).toArray) s = true := fun w h1 h2 => hts w (List.mem_cons_of_mem _ (lwG_in h1 h2))
  have hown : s.vm.findClass RX1 = some m.cls := findClass_of_methodNamed B.named
  have hlocks := B.notSynchronized
  have hin : meth.name = "<init>" := (name_of_methodNamed B.named B.method).1
  subst hsz
  have hD := hD0.self (sz := s.heap.size)
  generalize hAe : va_A [(h, .inr (1, [.null, .null]))] s.heap.size = A at hD ⊢
  have hA : ∀ q : Nat, s.heap.size ≤ q → A q := fun q h => by rw [← hAe]; exact Or.inr h
  have hS : va_S A s.heap s.heap [] := va_S.rf
  have hl := lv_entry ([.ref h]) (n := 1) (Nat.le_of_ble_eq_true rfl)
  rw [lg_entry_eq]
  generalize (lg_sl ([.ref h]) ++ List.replicate (1 - (lg_sl ([.ref h])).length) Slot.unset).toArray = ls at hl ⊢
  have hl : lv_has ls 1 [(0, .ref h)] := hl
  have hP : va_P (dC, dI) vwCl ((h, .inr (1, [.null, .null])) :: ([] : va_W)) s.heap := hP
  have hD : va_D A ((h, .inr (1, [.null, .null])) :: ([] : va_W)) := hD
  refine lv_aload_n hx hb dX1_init_0 rfl (lv_at hl 0 rfl) ?_
  refine W.objInit hx hb hown (ht (.methodLink RX1 3 objectInit) (by decide +kernel) rfl) (ht (.instanceMethod objectInit) (by decide +kernel) rfl) (ht (.code objectInit ⟨#[0xb1]⟩ 1 none) (by decide +kernel) rfl) rfl (by rw [hml]; exact hl.1) rfl dX1_init_1 (Nat.le_of_ble_eq_true rfl) (Nat.le_of_ble_eq_true rfl) ?_
  refine W.eq (g2 := F0 m 4 ls []) rfl ?_
  refine lv_aload_n hx hb dX1_init_4 rfl (lv_at hl 0 rfl) ?_
  refine lv_bipush (v := 10) hx hb dX1_init_5 (by decide) ?_
  refine va_newa (ty := .int) (atype := .int) (a0 := (10, .inl (zF 10))) (N' := 10) hx hb (ht (.arrayClass .int) (by decide +kernel) rfl) rfl hK hP hD hS hA (zF_c 10) (by decide) rfl (Nat.le_of_ble_eq_true rfl) (Nat.le_of_ble_eq_true rfl) (Nat.le_of_ble_eq_true rfl) dX1_init_7 (fun a1 cA H hK1 hP hD hS => ?_)
  obtain rfl := tc_0 hK hK1
  have hP : va_P (dC, dI) vwCl ((h, .inr (1, [.null, .null])) :: ([(a1, zE tc 10)] : va_W)) H := hP
  have hD : va_D A ((h, .inr (1, [.null, .null])) :: ([(a1, zE tc 10)] : va_W)) := hD
  refine W.widen (k := 1) (n := 10) (by omega) (by omega) ?_
  refine va_putF (D := (dC, dI)) (ci := 1) (v := .ref a1) (ty := .array .int) (C := RX1) (T := TX1) (N := 2) hx hb hts (fun w hw => List.mem_cons_of_mem _ (lwG_in (inX1 w hw) (u_good w hw))) tyX1 tyX1_ok nmX1 hown hK hP hD hS 0 rfl rfl 0 (by decide) (ht (.fieldLink RX1 9 "GroupTables$LeftMatches" "lowerSeats" "[I") (by decide +kernel) rfl) (fun _ h9 => h9) rfl hin rfl (by decide +kernel) rfl rfl (Nat.le_of_ble_eq_true rfl) dX1_init_9 (fun H locs hP hD hS => ?_)
  have hP : va_P (dC, dI) vwCl ((h, .inr (1, [.ref a1, .null])) :: ([(a1, zE tc 10)] : va_W)) H := hP
  have hD : va_D A ((h, .inr (1, [.ref a1, .null])) :: ([(a1, zE tc 10)] : va_W)) := hD
  refine lv_aload_n hx hb dX1_init_12 rfl (lv_at hl 0 rfl) ?_
  refine lv_bipush (v := 10) hx hb dX1_init_13 (by decide) ?_
  refine va_newa (ty := .int) (atype := .int) (a0 := (10, .inl (zF 10))) (N' := 10) hx hb (ht (.arrayClass .int) (by decide +kernel) rfl) rfl hK hP hD hS hA (zF_c 10) (by decide) rfl (Nat.le_of_ble_eq_true rfl) (Nat.le_of_ble_eq_true rfl) (Nat.le_of_ble_eq_true rfl) dX1_init_15 (fun a2 cA H hK1 hP hD hS => ?_)
  obtain rfl := tc_0 hK hK1
  have hP : va_P (dC, dI) vwCl ((h, .inr (1, [.ref a1, .null])) :: ([(a1, zE tc 10)] ++ [(a2, zE tc 10)] : va_W)) H := hP
  have hD : va_D A ((h, .inr (1, [.ref a1, .null])) :: ([(a1, zE tc 10)] ++ [(a2, zE tc 10)] : va_W)) := hD
  refine W.widen (k := 2) (n := 20) (by omega) (by omega) ?_
  refine va_putF (D := (dC, dI)) (ci := 1) (v := .ref a2) (ty := .array .int) (C := RX1) (T := TX1) (N := 2) hx hb hts (fun w hw => List.mem_cons_of_mem _ (lwG_in (inX1 w hw) (u_good w hw))) tyX1 tyX1_ok nmX1 hown hK hP hD hS 0 rfl rfl 1 (by decide) (ht (.fieldLink RX1 15 "GroupTables$LeftMatches" "upperSeats" "[I") (by decide +kernel) rfl) (fun _ h9 => h9) rfl hin rfl (by decide +kernel) rfl rfl (Nat.le_of_ble_eq_true rfl) dX1_init_17 (fun H locs hP hD hS => ?_)
  have hP : va_P (dC, dI) vwCl ((h, .inr (1, [.ref a1, .ref a2])) :: ([(a1, zE tc 10)] ++ [(a2, zE tc 10)] : va_W)) H := hP
  have hD : va_D A ((h, .inr (1, [.ref a1, .ref a2])) :: ([(a1, zE tc 10)] ++ [(a2, zE tc 10)] : va_W)) := hD
  refine W.widen (k := 2) (n := 20) (by omega) (by omega) ?_
  exact W.vret hx hb hr (fun t ht hW => ⟨⟨(a1, a2), rfl, trivial, by rw [ht]; exact hP, hD⟩, hS.F ht⟩) hS.2.2 dX1_init_20
abbrev oMW (tc : Nat → ClassId) (n k h : Nat) (u : Nat × (Nat → Nat)) : va_W := (h, .inr (2, [.ref u.1])) :: ([(u.1, rE tc 1 n u.2)] ++ rwW (zE tc k) n u.2)
abbrev oTW (tc : Nat → ClassId) (h : Nat) (u : Nat × (Nat × (Nat → Nat)) × Nat × Nat × (Nat → Nat)) : va_W := (h, .inr (5, [.ref u.1, .ref u.2.2.1, .ref u.2.2.2.1])) :: (oMW tc 5 4 u.1 u.2.1 ++ [(u.2.2.1, zE tc 5)] ++ [(u.2.2.2.1, rE tc 1 5 u.2.2.2.2)] ++ rwW (zE tc 5) 5 u.2.2.2.2)
abbrev oHW (tc : Nat → ClassId) (h : Nat) (u : Nat × (Nat × (Nat → Nat))) : va_W := (h, .inr (6, [.ref u.1])) :: (oMW tc 6 5 u.1 u.2)
abbrev oOW (tc : Nat → ClassId) (h : Nat) (u : Nat × (Nat × Nat) × Nat × Nat) : va_W := (h, .inr (3, [.ref u.1, .ref u.2.2.1, .ref u.2.2.2, .int 0, .int 0, .int 0, .int 0])) :: (oLW tc u.1 u.2.1 ++ [(u.2.2.1, zE tc 5)] ++ [(u.2.2.2, zE tc 5)])
abbrev oSW (tc : Nat → ClassId) (h : Nat) (u : Nat × (Nat × Nat)) : va_W := (h, .inr (4, [.ref u.1])) :: (oLW tc u.1 u.2)
set_option maxHeartbeats 4000000 in
set_option maxRecDepth 100000 in
theorem ct_X2a (l : Launch) (tc dC : Nat → ClassId) (dI : Nat → Nat → Nat) : CtC l tc dC dI yX2_init (Jvm.Cond.code yX2_init cX2_init 3 none :: lwG) ({ frames := 2, cells := 6, slots := 25, locals := 20 } : Room) (.inr (2, [.null])) (Nat × (Nat → Nat)) (oMW tc 5 4) [.int 5, .int 4] 6 25 := by
  intro h sz
  refine Met.ofW (cc := cX2_init) (maxL := 3) (ret := none) (by decide) rfl ?_
  intro p e s m args below meth c s₁ B hml hv
  obtain ⟨rfl, hsz, hP, hK, hD0, hN⟩ := hv
  have hx := B.exec
  have hb := B.bytes
  have hr := B.returns
  have hts := atoms_spec (ws := Jvm.Cond.code yX2_init cX2_init 3 none :: lwG) B.pre
  have ht : ∀ w, w ∈ lw_tbl → goodWord w = true → w.before (([.ref h, .int 5, .int 4] : List Value).toArray) s = true := fun w h1 h2 => hts w (List.mem_cons_of_mem _ (lwG_in h1 h2))
  have hown : s.vm.findClass RX2 = some m.cls := findClass_of_methodNamed B.named
  have hlocks := B.notSynchronized
  have hin : meth.name = "<init>" := (name_of_methodNamed B.named B.method).1
  subst hsz
  have hD := hD0.self (sz := s.heap.size)
  generalize hAe : va_A [(h, .inr (2, [.null]))] s.heap.size = A at hD ⊢
  have hA : ∀ q : Nat, s.heap.size ≤ q → A q := fun q h => by rw [← hAe]; exact Or.inr h
  have hS : va_S A s.heap s.heap [] := va_S.rf
  have hl := lv_entry ([.ref h, .int 5, .int 4]) (n := 3) (Nat.le_of_ble_eq_true rfl)
  rw [lg_entry_eq]
  generalize (lg_sl ([.ref h, .int 5, .int 4]) ++ List.replicate (3 - (lg_sl ([.ref h, .int 5, .int 4])).length) Slot.unset).toArray = ls at hl ⊢
  have hl : lv_has ls 3 [(0, .ref h), (1, .int 5), (2, .int 4)] := hl
  have hP : va_P (dC, dI) vwCl ((h, .inr (2, [.null])) :: ([] : va_W)) s.heap := hP
  have hD : va_D A ((h, .inr (2, [.null])) :: ([] : va_W)) := hD
  refine lv_aload_n hx hb dX2_init_0 rfl (lv_at hl 0 rfl) ?_
  refine W.objInit hx hb hown (ht (.methodLink RX2 1 objectInit) (by decide +kernel) rfl) (ht (.instanceMethod objectInit) (by decide +kernel) rfl) (ht (.code objectInit ⟨#[0xb1]⟩ 1 none) (by decide +kernel) rfl) rfl (by rw [hml]; exact hl.1) rfl dX2_init_1 (Nat.le_of_ble_eq_true rfl) (Nat.le_of_ble_eq_true rfl) ?_
  refine W.eq (g2 := F0 m 4 ls []) rfl ?_
  refine lv_aload_n hx hb dX2_init_4 rfl (lv_at hl 0 rfl) ?_
  refine lv_iload_n hx hb dX2_init_5 rfl (lv_at hl 1 rfl) ?_
  refine lv_iload_n hx hb dX2_init_6 rfl (lv_at hl 2 rfl) ?_
  refine va_mna (X := ((h, .inr (2, [.null])) :: ([] : va_W))) (L := []) (f := fun _ => zE tc 0) (z := (4, .inl (zF 4))) (N' := 5) (K' := 4) (ty := .int) hx hb hown (ht (.classLink RX2 7 "[[I") (by decide +kernel) rfl) hN.1 (ht (.arrayClass .int) (by decide +kernel) rfl) (tc_in hK) hK (by rw [show va_pl [] (fun _ => zE tc 0) = [] from rfl, List.append_nil]; exact hP) (by rw [show va_pl [] (fun _ => zE tc 0) = [] from rfl, List.append_nil]; exact hD) hS hA (by decide) (by decide) rfl rfl (Nat.le_of_ble_eq_true rfl) (Nat.le_of_ble_eq_true rfl) (Nat.le_of_ble_eq_true rfl) rfl rfl (Nat.le_of_ble_eq_true rfl) (Nat.le_of_ble_eq_true rfl) (zF_m 4) dX2_init_7 (fun q f cA H _ _ hK1 hP hD hS => ?_)
  obtain rfl := tc_1 hK hK1
  rw [← vr_rows (L := []) (fun _ _ => List.not_mem_nil), show va_pl [] (fun _ => zE tc 0) = [] from rfl, List.nil_append, rF_n (by decide) f] at hP hD
  have hP : va_P (dC, dI) vwCl ((h, .inr (2, [.null])) :: ([(q, rE tc 1 5 f)] ++ rwW (zE tc 4) 5 f : va_W)) H := hP
  have hD : va_D A ((h, .inr (2, [.null])) :: ([(q, rE tc 1 5 f)] ++ rwW (zE tc 4) 5 f : va_W)) := hD
  refine W.widen (k := 6) (n := 25) (by omega) (by omega) ?_
  refine va_putF (D := (dC, dI)) (ci := 2) (v := .ref q) (ty := .array (.array .int)) (C := RX2) (T := TX2) (N := 1) hx hb hts (fun w hw => List.mem_cons_of_mem _ (lwG_in (inX2 w hw) (u_good w hw))) tyX2 tyX2_ok nmX2 hown hK hP hD hS 0 rfl rfl 0 (by decide) (ht (.fieldLink RX2 9 "GroupTables$Marks" "rows" "[[I") (by decide +kernel) rfl) (fun _ h9 => h9) rfl hin rfl (by decide +kernel) rfl rfl (Nat.le_of_ble_eq_true rfl) dX2_init_11 (fun H locs hP hD hS => ?_)
  have hP : va_P (dC, dI) vwCl ((h, .inr (2, [.ref q])) :: ([(q, rE tc 1 5 f)] ++ rwW (zE tc 4) 5 f : va_W)) H := hP
  have hD : va_D A ((h, .inr (2, [.ref q])) :: ([(q, rE tc 1 5 f)] ++ rwW (zE tc 4) 5 f : va_W)) := hD
  refine W.widen (k := 6) (n := 25) (by omega) (by omega) ?_
  exact W.vret hx hb hr (fun t ht hW => ⟨⟨(q, f), rfl, trivial, by rw [ht]; exact hP, hD⟩, hS.F ht⟩) hS.2.2 dX2_init_14
set_option maxHeartbeats 4000000 in
set_option maxRecDepth 100000 in
theorem ct_X2b (l : Launch) (tc dC : Nat → ClassId) (dI : Nat → Nat → Nat) : CtC l tc dC dI yX2_init (Jvm.Cond.code yX2_init cX2_init 3 none :: lwG) ({ frames := 2, cells := 7, slots := 36, locals := 20 } : Room) (.inr (2, [.null])) (Nat × (Nat → Nat)) (oMW tc 6 5) [.int 6, .int 5] 7 36 := by
  intro h sz
  refine Met.ofW (cc := cX2_init) (maxL := 3) (ret := none) (by decide) rfl ?_
  intro p e s m args below meth c s₁ B hml hv
  obtain ⟨rfl, hsz, hP, hK, hD0, hN⟩ := hv
  have hx := B.exec
  have hb := B.bytes
  have hr := B.returns
  have hts := atoms_spec (ws := Jvm.Cond.code yX2_init cX2_init 3 none :: lwG) B.pre
  have ht : ∀ w, w ∈ lw_tbl → goodWord w = true → w.before (([.ref h, .int 6, .int 5] : List Value).toArray) s = true := fun w h1 h2 => hts w (List.mem_cons_of_mem _ (lwG_in h1 h2))
  have hown : s.vm.findClass RX2 = some m.cls := findClass_of_methodNamed B.named
  have hlocks := B.notSynchronized
  have hin : meth.name = "<init>" := (name_of_methodNamed B.named B.method).1
  subst hsz
  have hD := hD0.self (sz := s.heap.size)
  generalize hAe : va_A [(h, .inr (2, [.null]))] s.heap.size = A at hD ⊢
  have hA : ∀ q : Nat, s.heap.size ≤ q → A q := fun q h => by rw [← hAe]; exact Or.inr h
  have hS : va_S A s.heap s.heap [] := va_S.rf
  have hl := lv_entry ([.ref h, .int 6, .int 5]) (n := 3) (Nat.le_of_ble_eq_true rfl)
  rw [lg_entry_eq]
  generalize (lg_sl ([.ref h, .int 6, .int 5]) ++ List.replicate (3 - (lg_sl ([.ref h, .int 6, .int 5])).length) Slot.unset).toArray = ls at hl ⊢
  have hl : lv_has ls 3 [(0, .ref h), (1, .int 6), (2, .int 5)] := hl
  have hP : va_P (dC, dI) vwCl ((h, .inr (2, [.null])) :: ([] : va_W)) s.heap := hP
  have hD : va_D A ((h, .inr (2, [.null])) :: ([] : va_W)) := hD
  refine lv_aload_n hx hb dX2_init_0 rfl (lv_at hl 0 rfl) ?_
  refine W.objInit hx hb hown (ht (.methodLink RX2 1 objectInit) (by decide +kernel) rfl) (ht (.instanceMethod objectInit) (by decide +kernel) rfl) (ht (.code objectInit ⟨#[0xb1]⟩ 1 none) (by decide +kernel) rfl) rfl (by rw [hml]; exact hl.1) rfl dX2_init_1 (Nat.le_of_ble_eq_true rfl) (Nat.le_of_ble_eq_true rfl) ?_
  refine W.eq (g2 := F0 m 4 ls []) rfl ?_
  refine lv_aload_n hx hb dX2_init_4 rfl (lv_at hl 0 rfl) ?_
  refine lv_iload_n hx hb dX2_init_5 rfl (lv_at hl 1 rfl) ?_
  refine lv_iload_n hx hb dX2_init_6 rfl (lv_at hl 2 rfl) ?_
  refine va_mna (X := ((h, .inr (2, [.null])) :: ([] : va_W))) (L := []) (f := fun _ => zE tc 0) (z := (5, .inl (zF 5))) (N' := 6) (K' := 5) (ty := .int) hx hb hown (ht (.classLink RX2 7 "[[I") (by decide +kernel) rfl) hN.1 (ht (.arrayClass .int) (by decide +kernel) rfl) (tc_in hK) hK (by rw [show va_pl [] (fun _ => zE tc 0) = [] from rfl, List.append_nil]; exact hP) (by rw [show va_pl [] (fun _ => zE tc 0) = [] from rfl, List.append_nil]; exact hD) hS hA (by decide) (by decide) rfl rfl (Nat.le_of_ble_eq_true rfl) (Nat.le_of_ble_eq_true rfl) (Nat.le_of_ble_eq_true rfl) rfl rfl (Nat.le_of_ble_eq_true rfl) (Nat.le_of_ble_eq_true rfl) (zF_m 5) dX2_init_7 (fun q f cA H _ _ hK1 hP hD hS => ?_)
  obtain rfl := tc_1 hK hK1
  rw [← vr_rows (L := []) (fun _ _ => List.not_mem_nil), show va_pl [] (fun _ => zE tc 0) = [] from rfl, List.nil_append, rF_n (by decide) f] at hP hD
  have hP : va_P (dC, dI) vwCl ((h, .inr (2, [.null])) :: ([(q, rE tc 1 6 f)] ++ rwW (zE tc 5) 6 f : va_W)) H := hP
  have hD : va_D A ((h, .inr (2, [.null])) :: ([(q, rE tc 1 6 f)] ++ rwW (zE tc 5) 6 f : va_W)) := hD
  refine W.widen (k := 7) (n := 36) (by omega) (by omega) ?_
  refine va_putF (D := (dC, dI)) (ci := 2) (v := .ref q) (ty := .array (.array .int)) (C := RX2) (T := TX2) (N := 1) hx hb hts (fun w hw => List.mem_cons_of_mem _ (lwG_in (inX2 w hw) (u_good w hw))) tyX2 tyX2_ok nmX2 hown hK hP hD hS 0 rfl rfl 0 (by decide) (ht (.fieldLink RX2 9 "GroupTables$Marks" "rows" "[[I") (by decide +kernel) rfl) (fun _ h9 => h9) rfl hin rfl (by decide +kernel) rfl rfl (Nat.le_of_ble_eq_true rfl) dX2_init_11 (fun H locs hP hD hS => ?_)
  have hP : va_P (dC, dI) vwCl ((h, .inr (2, [.ref q])) :: ([(q, rE tc 1 6 f)] ++ rwW (zE tc 5) 6 f : va_W)) H := hP
  have hD : va_D A ((h, .inr (2, [.ref q])) :: ([(q, rE tc 1 6 f)] ++ rwW (zE tc 5) 6 f : va_W)) := hD
  refine W.widen (k := 7) (n := 36) (by omega) (by omega) ?_
  exact W.vret hx hb hr (fun t ht hW => ⟨⟨(q, f), rfl, trivial, by rw [ht]; exact hP, hD⟩, hS.F ht⟩) hS.2.2 dX2_init_14
set_option maxHeartbeats 4000000 in
set_option maxRecDepth 100000 in
theorem ct_X5 (l : Launch) (tc dC : Nat → ClassId) (dI : Nat → Nat → Nat) : CtC l tc dC dI yX5_init (Jvm.Cond.code yX5_init cX5_init 1 none :: lwG) ({ frames := 4, cells := 14, slots := 61, locals := 60 } : Room) (.inr (5, [.null, .null, .null])) (Nat × (Nat × (Nat → Nat)) × Nat × Nat × (Nat → Nat)) (oTW tc) [] 14 61 := by
  intro h sz
  refine Met.ofW (cc := cX5_init) (maxL := 1) (ret := none) (by decide) rfl ?_
  intro p e s m args below meth c s₁ B hml hv
  obtain ⟨rfl, hsz, hP, hK, hD0, hN⟩ := hv
  have hx := B.exec
  have hb := B.bytes
  have hr := B.returns
  have hts := atoms_spec (ws := Jvm.Cond.code yX5_init cX5_init 1 none :: lwG) B.pre
  have ht : ∀ w, w ∈ lw_tbl → goodWord w = true → w.before (([.ref h] : List Value).toArray) s = true := fun w h1 h2 => hts w (List.mem_cons_of_mem _ (lwG_in h1 h2))
  have hown : s.vm.findClass RX5 = some m.cls := findClass_of_methodNamed B.named
  have hlocks := B.notSynchronized
  have hin : meth.name = "<init>" := (name_of_methodNamed B.named B.method).1
  subst hsz
  have hD := hD0.self (sz := s.heap.size)
  generalize hAe : va_A [(h, .inr (5, [.null, .null, .null]))] s.heap.size = A at hD ⊢
  have hA : ∀ q : Nat, s.heap.size ≤ q → A q := fun q h => by rw [← hAe]; exact Or.inr h
  have hS : va_S A s.heap s.heap [] := va_S.rf
  have hl := lv_entry ([.ref h]) (n := 1) (Nat.le_of_ble_eq_true rfl)
  rw [lg_entry_eq]
  generalize (lg_sl ([.ref h]) ++ List.replicate (1 - (lg_sl ([.ref h])).length) Slot.unset).toArray = ls at hl ⊢
  have hl : lv_has ls 1 [(0, .ref h)] := hl
  have hP : va_P (dC, dI) vwCl ((h, .inr (5, [.null, .null, .null])) :: ([] : va_W)) s.heap := hP
  have hD : va_D A ((h, .inr (5, [.null, .null, .null])) :: ([] : va_W)) := hD
  refine lv_aload_n hx hb dX5_init_0 rfl (lv_at hl 0 rfl) ?_
  refine W.objInit hx hb hown (ht (.methodLink RX5 3 objectInit) (by decide +kernel) rfl) (ht (.instanceMethod objectInit) (by decide +kernel) rfl) (ht (.code objectInit ⟨#[0xb1]⟩ 1 none) (by decide +kernel) rfl) rfl (by rw [hml]; exact hl.1) rfl dX5_init_1 (Nat.le_of_ble_eq_true rfl) (Nat.le_of_ble_eq_true rfl) ?_
  refine W.eq (g2 := F0 m 4 ls []) rfl ?_
  refine lv_aload_n hx hb dX5_init_4 rfl (lv_at hl 0 rfl) ?_
  refine va_new (ci := 2) (fs := [.null]) (C := RX2) (T := TX2) (N := 1) hx hb hts (fun w hw => List.mem_cons_of_mem _ (lwG_in (inX2 w hw) (u_good w hw))) tyX2 tyX2_ok hown (ht (.classLink RX5 9 RX2) (by decide +kernel) rfl) (ht (.instantiable RX2 1) (by decide +kernel) rfl) (ht (.initialized RX2) (by decide +kernel) rfl) hK hP hD hS hA rfl (fun j hj => by rcases (show j = 0 by omega) with rfl <;> rfl) (Nat.le_of_ble_eq_true rfl) (Nat.le_of_ble_eq_true rfl) dX5_init_5 (fun q1 H hP hD hS => ?_)
  have hP : va_P (dC, dI) vwCl (((h, .inr (5, [.null, .null, .null])) :: ([] : va_W)) ++ [(q1, .inr (2, [.null]))]) H := hP
  have hD : va_D A (((h, .inr (5, [.null, .null, .null])) :: ([] : va_W)) ++ [(q1, .inr (2, [.null]))]) := hD
  refine W.widen (k := 1) (n := 1) (by omega) (by omega) ?_
  refine lv_dup hx hb dX5_init_8 rfl ?_
  refine lv_iconst (v := 5) hx hb dX5_init_9 (by decide) ?_
  refine lv_iconst (v := 4) hx hb dX5_init_10 (by decide) ?_
  have hFc := la_A hD hS hA
  refine va_callv (va_runI (As := [.int 5, .int 4]) (rest := [.ref q1, .ref h]) ⟨hx, hb, hml, hown, hts⟩ (ct_X2a l tc dC dI q1 H.size) (cwI 2 hts (good_ct (by decide +kernel) rfl) rfl rfl rfl (ht (.initialized RX2) (by decide +kernel) rfl) (ht (.methodLink RX5 13 yX2_init) (by decide +kernel) rfl) (ht (.instanceMethod yX2_init) (by decide +kernel) rfl) rfl (by decide +kernel) ⟨Nat.le_of_ble_eq_true rfl, Nat.le_of_ble_eq_true rfl⟩) (prC_pre hP hD hK hN) rfl rfl hl.1 rfl (lv_room (Nat.le_of_ble_eq_true rfl)) dX5_init_11 ⟨Nat.le_of_ble_eq_true rfl, Nat.le_of_ble_eq_true rfl⟩) hS (fun q _ h => hFc q h) hFc (fun u1 t H1 locs ht1 hvm hw hB hz1 hk1 hS => ?_)
  obtain ⟨hP1, hD1⟩ := hB
  rw [ht1] at hP1
  obtain ⟨hP, hD⟩ := la_join hP hD hk1 hFc hP1 hD1
  clear hP1 hD1 hk1 hFc hz1
  generalize H1 = H at hP hS ⊢
  have hP : va_P (dC, dI) vwCl ((h, .inr (5, [.null, .null, .null])) :: (oMW tc 5 4 q1 u1 : va_W)) H := hP
  have hD : va_D A ((h, .inr (5, [.null, .null, .null])) :: (oMW tc 5 4 q1 u1 : va_W)) := hD
  refine W.widen (k := 7) (n := 26) (by omega) (by omega) ?_
  refine va_putF (D := (dC, dI)) (ci := 5) (v := .ref q1) (ty := .object "GroupTables$Marks") (C := RX5) (T := TX5) (N := 3) hx hb hts (fun w hw => List.mem_cons_of_mem _ (lwG_in (inX5 w hw) (u_good w hw))) tyX5 tyX5_ok nmX5 hown hK hP hD hS 0 rfl rfl 0 (by decide) (ht (.fieldLink RX5 16 "GroupTables$Table" "marks" "LGroupTables$Marks;") (by decide +kernel) rfl) (fun _ h9 => h9) rfl hin rfl (by decide +kernel) rfl rfl (Nat.le_of_ble_eq_true rfl) dX5_init_14 (fun H locs hP hD hS => ?_)
  have hP : va_P (dC, dI) vwCl ((h, .inr (5, [.ref q1, .null, .null])) :: (oMW tc 5 4 q1 u1 : va_W)) H := hP
  have hD : va_D A ((h, .inr (5, [.ref q1, .null, .null])) :: (oMW tc 5 4 q1 u1 : va_W)) := hD
  refine lv_aload_n hx hb dX5_init_17 rfl (lv_at hl 0 rfl) ?_
  refine lv_iconst (v := 5) hx hb dX5_init_18 (by decide) ?_
  refine va_newa (ty := .int) (atype := .int) (a0 := (5, .inl (zF 5))) (N' := 5) hx hb (ht (.arrayClass .int) (by decide +kernel) rfl) rfl hK hP hD hS hA (zF_c 5) (by decide) rfl (Nat.le_of_ble_eq_true rfl) (Nat.le_of_ble_eq_true rfl) (Nat.le_of_ble_eq_true rfl) dX5_init_19 (fun a1 cA H hK1 hP hD hS => ?_)
  obtain rfl := tc_0 hK hK1
  have hP : va_P (dC, dI) vwCl ((h, .inr (5, [.ref q1, .null, .null])) :: (oMW tc 5 4 q1 u1 ++ [(a1, zE tc 5)] : va_W)) H := hP
  have hD : va_D A ((h, .inr (5, [.ref q1, .null, .null])) :: (oMW tc 5 4 q1 u1 ++ [(a1, zE tc 5)] : va_W)) := hD
  refine W.widen (k := 8) (n := 31) (by omega) (by omega) ?_
  refine va_putF (D := (dC, dI)) (ci := 5) (v := .ref a1) (ty := .array .int) (C := RX5) (T := TX5) (N := 3) hx hb hts (fun w hw => List.mem_cons_of_mem _ (lwG_in (inX5 w hw) (u_good w hw))) tyX5 tyX5_ok nmX5 hown hK hP hD hS 0 rfl rfl 1 (by decide) (ht (.fieldLink RX5 20 "GroupTables$Table" "order" "[I") (by decide +kernel) rfl) (fun _ h9 => h9) rfl hin rfl (by decide +kernel) rfl rfl (Nat.le_of_ble_eq_true rfl) dX5_init_21 (fun H locs hP hD hS => ?_)
  have hP : va_P (dC, dI) vwCl ((h, .inr (5, [.ref q1, .ref a1, .null])) :: (oMW tc 5 4 q1 u1 ++ [(a1, zE tc 5)] : va_W)) H := hP
  have hD : va_D A ((h, .inr (5, [.ref q1, .ref a1, .null])) :: (oMW tc 5 4 q1 u1 ++ [(a1, zE tc 5)] : va_W)) := hD
  refine lv_aload_n hx hb dX5_init_24 rfl (lv_at hl 0 rfl) ?_
  refine lv_iconst (v := 5) hx hb dX5_init_25 (by decide) ?_
  refine lv_iconst (v := 5) hx hb dX5_init_26 (by decide) ?_
  refine va_mna (X := ((h, .inr (5, [.ref q1, .ref a1, .null])) :: (oMW tc 5 4 q1 u1 ++ [(a1, zE tc 5)] : va_W))) (L := []) (f := fun _ => zE tc 0) (z := (5, .inl (zF 5))) (N' := 5) (K' := 5) (ty := .int) hx hb hown (ht (.classLink RX5 24 "[[I") (by decide +kernel) rfl) hN.1 (ht (.arrayClass .int) (by decide +kernel) rfl) (tc_in hK) hK (by rw [show va_pl [] (fun _ => zE tc 0) = [] from rfl, List.append_nil]; exact hP) (by rw [show va_pl [] (fun _ => zE tc 0) = [] from rfl, List.append_nil]; exact hD) hS hA (by decide) (by decide) rfl rfl (Nat.le_of_ble_eq_true rfl) (Nat.le_of_ble_eq_true rfl) (Nat.le_of_ble_eq_true rfl) rfl rfl (Nat.le_of_ble_eq_true rfl) (Nat.le_of_ble_eq_true rfl) (zF_m 5) dX5_init_27 (fun q2 f cA H _ _ hK1 hP hD hS => ?_)
  obtain rfl := tc_1 hK hK1
  rw [← vr_rows (L := []) (fun _ _ => List.not_mem_nil), show va_pl [] (fun _ => zE tc 0) = [] from rfl, List.nil_append, rF_n (by decide) f] at hP hD
  have hP : va_P (dC, dI) vwCl ((h, .inr (5, [.ref q1, .ref a1, .null])) :: (oMW tc 5 4 q1 u1 ++ [(a1, zE tc 5)] ++ [(q2, rE tc 1 5 f)] ++ rwW (zE tc 5) 5 f : va_W)) H := hP
  have hD : va_D A ((h, .inr (5, [.ref q1, .ref a1, .null])) :: (oMW tc 5 4 q1 u1 ++ [(a1, zE tc 5)] ++ [(q2, rE tc 1 5 f)] ++ rwW (zE tc 5) 5 f : va_W)) := hD
  refine W.widen (k := 14) (n := 61) (by omega) (by omega) ?_
  refine va_putF (D := (dC, dI)) (ci := 5) (v := .ref q2) (ty := .array (.array .int)) (C := RX5) (T := TX5) (N := 3) hx hb hts (fun w hw => List.mem_cons_of_mem _ (lwG_in (inX5 w hw) (u_good w hw))) tyX5 tyX5_ok nmX5 hown hK hP hD hS 0 rfl rfl 2 (by decide) (ht (.fieldLink RX5 26 "GroupTables$Table" "rules" "[[I") (by decide +kernel) rfl) (fun _ h9 => h9) rfl hin rfl (by decide +kernel) rfl rfl (Nat.le_of_ble_eq_true rfl) dX5_init_31 (fun H locs hP hD hS => ?_)
  have hP : va_P (dC, dI) vwCl ((h, .inr (5, [.ref q1, .ref a1, .ref q2])) :: (oMW tc 5 4 q1 u1 ++ [(a1, zE tc 5)] ++ [(q2, rE tc 1 5 f)] ++ rwW (zE tc 5) 5 f : va_W)) H := hP
  have hD : va_D A ((h, .inr (5, [.ref q1, .ref a1, .ref q2])) :: (oMW tc 5 4 q1 u1 ++ [(a1, zE tc 5)] ++ [(q2, rE tc 1 5 f)] ++ rwW (zE tc 5) 5 f : va_W)) := hD
  refine W.widen (k := 14) (n := 61) (by omega) (by omega) ?_
  exact W.vret hx hb hr (fun t ht hW => ⟨⟨(q1, u1, a1, q2, f), rfl, trivial, by rw [ht]; exact hP, hD⟩, hS.F ht⟩) hS.2.2 dX5_init_34
set_option maxHeartbeats 4000000 in
set_option maxRecDepth 100000 in
theorem ct_X6 (l : Launch) (tc dC : Nat → ClassId) (dI : Nat → Nat → Nat) : CtC l tc dC dI yX6_init (Jvm.Cond.code yX6_init cX6_init 1 none :: lwG) ({ frames := 4, cells := 8, slots := 37, locals := 60 } : Room) (.inr (6, [.null])) (Nat × (Nat × (Nat → Nat))) (oHW tc) [] 8 37 := by
  intro h sz
  refine Met.ofW (cc := cX6_init) (maxL := 1) (ret := none) (by decide) rfl ?_
  intro p e s m args below meth c s₁ B hml hv
  obtain ⟨rfl, hsz, hP, hK, hD0, hN⟩ := hv
  have hx := B.exec
  have hb := B.bytes
  have hr := B.returns
  have hts := atoms_spec (ws := Jvm.Cond.code yX6_init cX6_init 1 none :: lwG) B.pre
  have ht : ∀ w, w ∈ lw_tbl → goodWord w = true → w.before (([.ref h] : List Value).toArray) s = true := fun w h1 h2 => hts w (List.mem_cons_of_mem _ (lwG_in h1 h2))
  have hown : s.vm.findClass RX6 = some m.cls := findClass_of_methodNamed B.named
  have hlocks := B.notSynchronized
  have hin : meth.name = "<init>" := (name_of_methodNamed B.named B.method).1
  subst hsz
  have hD := hD0.self (sz := s.heap.size)
  generalize hAe : va_A [(h, .inr (6, [.null]))] s.heap.size = A at hD ⊢
  have hA : ∀ q : Nat, s.heap.size ≤ q → A q := fun q h => by rw [← hAe]; exact Or.inr h
  have hS : va_S A s.heap s.heap [] := va_S.rf
  have hl := lv_entry ([.ref h]) (n := 1) (Nat.le_of_ble_eq_true rfl)
  rw [lg_entry_eq]
  generalize (lg_sl ([.ref h]) ++ List.replicate (1 - (lg_sl ([.ref h])).length) Slot.unset).toArray = ls at hl ⊢
  have hl : lv_has ls 1 [(0, .ref h)] := hl
  have hP : va_P (dC, dI) vwCl ((h, .inr (6, [.null])) :: ([] : va_W)) s.heap := hP
  have hD : va_D A ((h, .inr (6, [.null])) :: ([] : va_W)) := hD
  refine lv_aload_n hx hb dX6_init_0 rfl (lv_at hl 0 rfl) ?_
  refine W.objInit hx hb hown (ht (.methodLink RX6 3 objectInit) (by decide +kernel) rfl) (ht (.instanceMethod objectInit) (by decide +kernel) rfl) (ht (.code objectInit ⟨#[0xb1]⟩ 1 none) (by decide +kernel) rfl) rfl (by rw [hml]; exact hl.1) rfl dX6_init_1 (Nat.le_of_ble_eq_true rfl) (Nat.le_of_ble_eq_true rfl) ?_
  refine W.eq (g2 := F0 m 4 ls []) rfl ?_
  refine lv_aload_n hx hb dX6_init_4 rfl (lv_at hl 0 rfl) ?_
  refine va_new (ci := 2) (fs := [.null]) (C := RX2) (T := TX2) (N := 1) hx hb hts (fun w hw => List.mem_cons_of_mem _ (lwG_in (inX2 w hw) (u_good w hw))) tyX2 tyX2_ok hown (ht (.classLink RX6 9 RX2) (by decide +kernel) rfl) (ht (.instantiable RX2 1) (by decide +kernel) rfl) (ht (.initialized RX2) (by decide +kernel) rfl) hK hP hD hS hA rfl (fun j hj => by rcases (show j = 0 by omega) with rfl <;> rfl) (Nat.le_of_ble_eq_true rfl) (Nat.le_of_ble_eq_true rfl) dX6_init_5 (fun q1 H hP hD hS => ?_)
  have hP : va_P (dC, dI) vwCl (((h, .inr (6, [.null])) :: ([] : va_W)) ++ [(q1, .inr (2, [.null]))]) H := hP
  have hD : va_D A (((h, .inr (6, [.null])) :: ([] : va_W)) ++ [(q1, .inr (2, [.null]))]) := hD
  refine W.widen (k := 1) (n := 1) (by omega) (by omega) ?_
  refine lv_dup hx hb dX6_init_8 rfl ?_
  refine lv_bipush (v := 6) hx hb dX6_init_9 (by decide) ?_
  refine lv_iconst (v := 5) hx hb dX6_init_11 (by decide) ?_
  have hFc := la_A hD hS hA
  refine va_callv (va_runI (As := [.int 6, .int 5]) (rest := [.ref q1, .ref h]) ⟨hx, hb, hml, hown, hts⟩ (ct_X2b l tc dC dI q1 H.size) (cwI 2 hts (good_ct (by decide +kernel) rfl) rfl rfl rfl (ht (.initialized RX2) (by decide +kernel) rfl) (ht (.methodLink RX6 13 yX2_init) (by decide +kernel) rfl) (ht (.instanceMethod yX2_init) (by decide +kernel) rfl) rfl (by decide +kernel) ⟨Nat.le_of_ble_eq_true rfl, Nat.le_of_ble_eq_true rfl⟩) (prC_pre hP hD hK hN) rfl rfl hl.1 rfl (lv_room (Nat.le_of_ble_eq_true rfl)) dX6_init_12 ⟨Nat.le_of_ble_eq_true rfl, Nat.le_of_ble_eq_true rfl⟩) hS (fun q _ h => hFc q h) hFc (fun u1 t H1 locs ht1 hvm hw hB hz1 hk1 hS => ?_)
  obtain ⟨hP1, hD1⟩ := hB
  rw [ht1] at hP1
  obtain ⟨hP, hD⟩ := la_join hP hD hk1 hFc hP1 hD1
  clear hP1 hD1 hk1 hFc hz1
  generalize H1 = H at hP hS ⊢
  have hP : va_P (dC, dI) vwCl ((h, .inr (6, [.null])) :: (oMW tc 6 5 q1 u1 : va_W)) H := hP
  have hD : va_D A ((h, .inr (6, [.null])) :: (oMW tc 6 5 q1 u1 : va_W)) := hD
  refine W.widen (k := 8) (n := 37) (by omega) (by omega) ?_
  refine va_putF (D := (dC, dI)) (ci := 6) (v := .ref q1) (ty := .object "GroupTables$Marks") (C := RX6) (T := TX6) (N := 1) hx hb hts (fun w hw => List.mem_cons_of_mem _ (lwG_in (inX6 w hw) (u_good w hw))) tyX6 tyX6_ok nmX6 hown hK hP hD hS 0 rfl rfl 0 (by decide) (ht (.fieldLink RX6 16 "GroupTables$Thirds" "marks" "LGroupTables$Marks;") (by decide +kernel) rfl) (fun _ h9 => h9) rfl hin rfl (by decide +kernel) rfl rfl (Nat.le_of_ble_eq_true rfl) dX6_init_15 (fun H locs hP hD hS => ?_)
  have hP : va_P (dC, dI) vwCl ((h, .inr (6, [.ref q1])) :: (oMW tc 6 5 q1 u1 : va_W)) H := hP
  have hD : va_D A ((h, .inr (6, [.ref q1])) :: (oMW tc 6 5 q1 u1 : va_W)) := hD
  refine W.widen (k := 8) (n := 37) (by omega) (by omega) ?_
  exact W.vret hx hb hr (fun t ht hW => ⟨⟨(q1, u1), rfl, trivial, by rw [ht]; exact hP, hD⟩, hS.F ht⟩) hS.2.2 dX6_init_18
set_option maxHeartbeats 4000000 in
set_option maxRecDepth 100000 in
theorem ct_X3 (l : Launch) (tc dC : Nat → ClassId) (dI : Nat → Nat → Nat) : CtC l tc dC dI yX3_init (Jvm.Cond.code yX3_init cX3_init 1 none :: lwG) ({ frames := 4, cells := 5, slots := 32, locals := 60 } : Room) (.inr (3, [.null, .null, .null, .int 0, .int 0, .int 0, .int 0])) (Nat × (Nat × Nat) × Nat × Nat) (oOW tc) [] 5 32 := by
  intro h sz
  refine Met.ofW (cc := cX3_init) (maxL := 1) (ret := none) (by decide) rfl ?_
  intro p e s m args below meth c s₁ B hml hv
  obtain ⟨rfl, hsz, hP, hK, hD0, hN⟩ := hv
  have hx := B.exec
  have hb := B.bytes
  have hr := B.returns
  have hts := atoms_spec (ws := Jvm.Cond.code yX3_init cX3_init 1 none :: lwG) B.pre
  have ht : ∀ w, w ∈ lw_tbl → goodWord w = true → w.before (([.ref h] : List Value).toArray) s = true := fun w h1 h2 => hts w (List.mem_cons_of_mem _ (lwG_in h1 h2))
  have hown : s.vm.findClass RX3 = some m.cls := findClass_of_methodNamed B.named
  have hlocks := B.notSynchronized
  have hin : meth.name = "<init>" := (name_of_methodNamed B.named B.method).1
  subst hsz
  have hD := hD0.self (sz := s.heap.size)
  generalize hAe : va_A [(h, .inr (3, [.null, .null, .null, .int 0, .int 0, .int 0, .int 0]))] s.heap.size = A at hD ⊢
  have hA : ∀ q : Nat, s.heap.size ≤ q → A q := fun q h => by rw [← hAe]; exact Or.inr h
  have hS : va_S A s.heap s.heap [] := va_S.rf
  have hl := lv_entry ([.ref h]) (n := 1) (Nat.le_of_ble_eq_true rfl)
  rw [lg_entry_eq]
  generalize (lg_sl ([.ref h]) ++ List.replicate (1 - (lg_sl ([.ref h])).length) Slot.unset).toArray = ls at hl ⊢
  have hl : lv_has ls 1 [(0, .ref h)] := hl
  have hP : va_P (dC, dI) vwCl ((h, .inr (3, [.null, .null, .null, .int 0, .int 0, .int 0, .int 0])) :: ([] : va_W)) s.heap := hP
  have hD : va_D A ((h, .inr (3, [.null, .null, .null, .int 0, .int 0, .int 0, .int 0])) :: ([] : va_W)) := hD
  refine lv_aload_n hx hb dX3_init_0 rfl (lv_at hl 0 rfl) ?_
  refine W.objInit hx hb hown (ht (.methodLink RX3 3 objectInit) (by decide +kernel) rfl) (ht (.instanceMethod objectInit) (by decide +kernel) rfl) (ht (.code objectInit ⟨#[0xb1]⟩ 1 none) (by decide +kernel) rfl) rfl (by rw [hml]; exact hl.1) rfl dX3_init_1 (Nat.le_of_ble_eq_true rfl) (Nat.le_of_ble_eq_true rfl) ?_
  refine W.eq (g2 := F0 m 4 ls []) rfl ?_
  refine lv_aload_n hx hb dX3_init_4 rfl (lv_at hl 0 rfl) ?_
  refine va_new (ci := 1) (fs := [.null, .null]) (C := RX1) (T := TX1) (N := 2) hx hb hts (fun w hw => List.mem_cons_of_mem _ (lwG_in (inX1 w hw) (u_good w hw))) tyX1 tyX1_ok hown (ht (.classLink RX3 9 RX1) (by decide +kernel) rfl) (ht (.instantiable RX1 2) (by decide +kernel) rfl) (ht (.initialized RX1) (by decide +kernel) rfl) hK hP hD hS hA rfl (fun j hj => by rcases (show j = 0 ∨ j = 1 by omega) with rfl | rfl <;> rfl) (Nat.le_of_ble_eq_true rfl) (Nat.le_of_ble_eq_true rfl) dX3_init_5 (fun q1 H hP hD hS => ?_)
  have hP : va_P (dC, dI) vwCl (((h, .inr (3, [.null, .null, .null, .int 0, .int 0, .int 0, .int 0])) :: ([] : va_W)) ++ [(q1, .inr (1, [.null, .null]))]) H := hP
  have hD : va_D A (((h, .inr (3, [.null, .null, .null, .int 0, .int 0, .int 0, .int 0])) :: ([] : va_W)) ++ [(q1, .inr (1, [.null, .null]))]) := hD
  refine W.widen (k := 1) (n := 2) (by omega) (by omega) ?_
  refine lv_dup hx hb dX3_init_8 rfl ?_
  have hFc := la_A hD hS hA
  refine va_callv (va_runIN (As := []) (rest := [.ref q1, .ref h]) ⟨hx, hb, hml, hown, hts⟩ (ct_X1 l tc dC dI q1 H.size) ⟨va_cnB (own := RX3) (index := 11) (y := yX1_init) (bytes := cX1_init) (maxL := 1) 0 hts (good_ct (by decide +kernel) rfl) rfl rfl rfl (hN.2.2 (RX3, 11, yX1_init) (by decide)) (ht (.initialized RX1) (by decide +kernel) rfl) (by decide +kernel) ⟨Nat.le_of_ble_eq_true rfl, Nat.le_of_ble_eq_true rfl⟩, rfl, ht (.instanceMethod yX1_init) (by decide +kernel) rfl⟩ (prC_pre hP hD hK hN) rfl rfl hl.1 rfl (lv_room (Nat.le_of_ble_eq_true rfl)) dX3_init_9 ⟨Nat.le_of_ble_eq_true rfl, Nat.le_of_ble_eq_true rfl⟩) hS (fun q _ h => hFc q h) hFc (fun u1 t H1 locs ht1 hvm hw hB hz1 hk1 hS => ?_)
  obtain ⟨hP1, hD1⟩ := hB
  rw [ht1] at hP1
  obtain ⟨hP, hD⟩ := la_join hP hD hk1 hFc hP1 hD1
  clear hP1 hD1 hk1 hFc hz1
  generalize H1 = H at hP hS ⊢
  have hP : va_P (dC, dI) vwCl ((h, .inr (3, [.null, .null, .null, .int 0, .int 0, .int 0, .int 0])) :: (oLW tc q1 u1 : va_W)) H := hP
  have hD : va_D A ((h, .inr (3, [.null, .null, .null, .int 0, .int 0, .int 0, .int 0])) :: (oLW tc q1 u1 : va_W)) := hD
  refine W.widen (k := 3) (n := 22) (by omega) (by omega) ?_
  refine va_putF (D := (dC, dI)) (ci := 3) (v := .ref q1) (ty := .object "GroupTables$LeftMatches") (C := RX3) (T := TX3) (N := 7) hx hb hts (fun w hw => List.mem_cons_of_mem _ (lwG_in (inX3 w hw) (u_good w hw))) tyX3 tyX3_ok nmX3 hown hK hP hD hS 0 rfl rfl 0 (by decide) (ht (.fieldLink RX3 12 "GroupTables$Outlook" "matches" "LGroupTables$LeftMatches;") (by decide +kernel) rfl) (fun _ h9 => h9) rfl hin rfl (by decide +kernel) rfl rfl (Nat.le_of_ble_eq_true rfl) dX3_init_12 (fun H locs hP hD hS => ?_)
  have hP : va_P (dC, dI) vwCl ((h, .inr (3, [.ref q1, .null, .null, .int 0, .int 0, .int 0, .int 0])) :: (oLW tc q1 u1 : va_W)) H := hP
  have hD : va_D A ((h, .inr (3, [.ref q1, .null, .null, .int 0, .int 0, .int 0, .int 0])) :: (oLW tc q1 u1 : va_W)) := hD
  refine lv_aload_n hx hb dX3_init_15 rfl (lv_at hl 0 rfl) ?_
  refine lv_iconst (v := 5) hx hb dX3_init_16 (by decide) ?_
  refine va_newa (ty := .int) (atype := .int) (a0 := (5, .inl (zF 5))) (N' := 5) hx hb (ht (.arrayClass .int) (by decide +kernel) rfl) rfl hK hP hD hS hA (zF_c 5) (by decide) rfl (Nat.le_of_ble_eq_true rfl) (Nat.le_of_ble_eq_true rfl) (Nat.le_of_ble_eq_true rfl) dX3_init_17 (fun a1 cA H hK1 hP hD hS => ?_)
  obtain rfl := tc_0 hK hK1
  have hP : va_P (dC, dI) vwCl ((h, .inr (3, [.ref q1, .null, .null, .int 0, .int 0, .int 0, .int 0])) :: (oLW tc q1 u1 ++ [(a1, zE tc 5)] : va_W)) H := hP
  have hD : va_D A ((h, .inr (3, [.ref q1, .null, .null, .int 0, .int 0, .int 0, .int 0])) :: (oLW tc q1 u1 ++ [(a1, zE tc 5)] : va_W)) := hD
  refine W.widen (k := 4) (n := 27) (by omega) (by omega) ?_
  refine va_putF (D := (dC, dI)) (ci := 3) (v := .ref a1) (ty := .array .int) (C := RX3) (T := TX3) (N := 7) hx hb hts (fun w hw => List.mem_cons_of_mem _ (lwG_in (inX3 w hw) (u_good w hw))) tyX3 tyX3_ok nmX3 hown hK hP hD hS 0 rfl rfl 1 (by decide) (ht (.fieldLink RX3 18 "GroupTables$Outlook" "gained" "[I") (by decide +kernel) rfl) (fun _ h9 => h9) rfl hin rfl (by decide +kernel) rfl rfl (Nat.le_of_ble_eq_true rfl) dX3_init_19 (fun H locs hP hD hS => ?_)
  have hP : va_P (dC, dI) vwCl ((h, .inr (3, [.ref q1, .ref a1, .null, .int 0, .int 0, .int 0, .int 0])) :: (oLW tc q1 u1 ++ [(a1, zE tc 5)] : va_W)) H := hP
  have hD : va_D A ((h, .inr (3, [.ref q1, .ref a1, .null, .int 0, .int 0, .int 0, .int 0])) :: (oLW tc q1 u1 ++ [(a1, zE tc 5)] : va_W)) := hD
  refine lv_aload_n hx hb dX3_init_22 rfl (lv_at hl 0 rfl) ?_
  refine lv_iconst (v := 5) hx hb dX3_init_23 (by decide) ?_
  refine va_newa (ty := .int) (atype := .int) (a0 := (5, .inl (zF 5))) (N' := 5) hx hb (ht (.arrayClass .int) (by decide +kernel) rfl) rfl hK hP hD hS hA (zF_c 5) (by decide) rfl (Nat.le_of_ble_eq_true rfl) (Nat.le_of_ble_eq_true rfl) (Nat.le_of_ble_eq_true rfl) dX3_init_24 (fun a2 cA H hK1 hP hD hS => ?_)
  obtain rfl := tc_0 hK hK1
  have hP : va_P (dC, dI) vwCl ((h, .inr (3, [.ref q1, .ref a1, .null, .int 0, .int 0, .int 0, .int 0])) :: (oLW tc q1 u1 ++ [(a1, zE tc 5)] ++ [(a2, zE tc 5)] : va_W)) H := hP
  have hD : va_D A ((h, .inr (3, [.ref q1, .ref a1, .null, .int 0, .int 0, .int 0, .int 0])) :: (oLW tc q1 u1 ++ [(a1, zE tc 5)] ++ [(a2, zE tc 5)] : va_W)) := hD
  refine W.widen (k := 5) (n := 32) (by omega) (by omega) ?_
  refine va_putF (D := (dC, dI)) (ci := 3) (v := .ref a2) (ty := .array .int) (C := RX3) (T := TX3) (N := 7) hx hb hts (fun w hw => List.mem_cons_of_mem _ (lwG_in (inX3 w hw) (u_good w hw))) tyX3 tyX3_ok nmX3 hown hK hP hD hS 0 rfl rfl 2 (by decide) (ht (.fieldLink RX3 22 "GroupTables$Outlook" "toPlay" "[I") (by decide +kernel) rfl) (fun _ h9 => h9) rfl hin rfl (by decide +kernel) rfl rfl (Nat.le_of_ble_eq_true rfl) dX3_init_26 (fun H locs hP hD hS => ?_)
  have hP : va_P (dC, dI) vwCl ((h, .inr (3, [.ref q1, .ref a1, .ref a2, .int 0, .int 0, .int 0, .int 0])) :: (oLW tc q1 u1 ++ [(a1, zE tc 5)] ++ [(a2, zE tc 5)] : va_W)) H := hP
  have hD : va_D A ((h, .inr (3, [.ref q1, .ref a1, .ref a2, .int 0, .int 0, .int 0, .int 0])) :: (oLW tc q1 u1 ++ [(a1, zE tc 5)] ++ [(a2, zE tc 5)] : va_W)) := hD
  refine W.widen (k := 5) (n := 32) (by omega) (by omega) ?_
  exact W.vret hx hb hr (fun t ht hW => ⟨⟨(q1, u1, a1, a2), rfl, trivial, by rw [ht]; exact hP, hD⟩, hS.F ht⟩) hS.2.2 dX3_init_29
set_option maxHeartbeats 4000000 in
set_option maxRecDepth 100000 in
theorem ct_X4 (l : Launch) (tc dC : Nat → ClassId) (dI : Nat → Nat → Nat) : CtC l tc dC dI yX4_init (Jvm.Cond.code yX4_init cX4_init 1 none :: lwG) ({ frames := 4, cells := 3, slots := 22, locals := 60 } : Room) (.inr (4, [.null])) (Nat × (Nat × Nat)) (oSW tc) [] 3 22 := by
  intro h sz
  refine Met.ofW (cc := cX4_init) (maxL := 1) (ret := none) (by decide) rfl ?_
  intro p e s m args below meth c s₁ B hml hv
  obtain ⟨rfl, hsz, hP, hK, hD0, hN⟩ := hv
  have hx := B.exec
  have hb := B.bytes
  have hr := B.returns
  have hts := atoms_spec (ws := Jvm.Cond.code yX4_init cX4_init 1 none :: lwG) B.pre
  have ht : ∀ w, w ∈ lw_tbl → goodWord w = true → w.before (([.ref h] : List Value).toArray) s = true := fun w h1 h2 => hts w (List.mem_cons_of_mem _ (lwG_in h1 h2))
  have hown : s.vm.findClass RX4 = some m.cls := findClass_of_methodNamed B.named
  have hlocks := B.notSynchronized
  have hin : meth.name = "<init>" := (name_of_methodNamed B.named B.method).1
  subst hsz
  have hD := hD0.self (sz := s.heap.size)
  generalize hAe : va_A [(h, .inr (4, [.null]))] s.heap.size = A at hD ⊢
  have hA : ∀ q : Nat, s.heap.size ≤ q → A q := fun q h => by rw [← hAe]; exact Or.inr h
  have hS : va_S A s.heap s.heap [] := va_S.rf
  have hl := lv_entry ([.ref h]) (n := 1) (Nat.le_of_ble_eq_true rfl)
  rw [lg_entry_eq]
  generalize (lg_sl ([.ref h]) ++ List.replicate (1 - (lg_sl ([.ref h])).length) Slot.unset).toArray = ls at hl ⊢
  have hl : lv_has ls 1 [(0, .ref h)] := hl
  have hP : va_P (dC, dI) vwCl ((h, .inr (4, [.null])) :: ([] : va_W)) s.heap := hP
  have hD : va_D A ((h, .inr (4, [.null])) :: ([] : va_W)) := hD
  refine lv_aload_n hx hb dX4_init_0 rfl (lv_at hl 0 rfl) ?_
  refine W.objInit hx hb hown (ht (.methodLink RX4 1 objectInit) (by decide +kernel) rfl) (ht (.instanceMethod objectInit) (by decide +kernel) rfl) (ht (.code objectInit ⟨#[0xb1]⟩ 1 none) (by decide +kernel) rfl) rfl (by rw [hml]; exact hl.1) rfl dX4_init_1 (Nat.le_of_ble_eq_true rfl) (Nat.le_of_ble_eq_true rfl) ?_
  refine W.eq (g2 := F0 m 4 ls []) rfl ?_
  refine lv_aload_n hx hb dX4_init_4 rfl (lv_at hl 0 rfl) ?_
  refine va_new (ci := 1) (fs := [.null, .null]) (C := RX1) (T := TX1) (N := 2) hx hb hts (fun w hw => List.mem_cons_of_mem _ (lwG_in (inX1 w hw) (u_good w hw))) tyX1 tyX1_ok hown (ht (.classLink RX4 7 RX1) (by decide +kernel) rfl) (ht (.instantiable RX1 2) (by decide +kernel) rfl) (ht (.initialized RX1) (by decide +kernel) rfl) hK hP hD hS hA rfl (fun j hj => by rcases (show j = 0 ∨ j = 1 by omega) with rfl | rfl <;> rfl) (Nat.le_of_ble_eq_true rfl) (Nat.le_of_ble_eq_true rfl) dX4_init_5 (fun q1 H hP hD hS => ?_)
  have hP : va_P (dC, dI) vwCl (((h, .inr (4, [.null])) :: ([] : va_W)) ++ [(q1, .inr (1, [.null, .null]))]) H := hP
  have hD : va_D A (((h, .inr (4, [.null])) :: ([] : va_W)) ++ [(q1, .inr (1, [.null, .null]))]) := hD
  refine W.widen (k := 1) (n := 2) (by omega) (by omega) ?_
  refine lv_dup hx hb dX4_init_8 rfl ?_
  have hFc := la_A hD hS hA
  refine va_callv (va_runIN (As := []) (rest := [.ref q1, .ref h]) ⟨hx, hb, hml, hown, hts⟩ (ct_X1 l tc dC dI q1 H.size) ⟨va_cnB (own := RX4) (index := 9) (y := yX1_init) (bytes := cX1_init) (maxL := 1) 0 hts (good_ct (by decide +kernel) rfl) rfl rfl rfl (hN.2.2 (RX4, 9, yX1_init) (by decide)) (ht (.initialized RX1) (by decide +kernel) rfl) (by decide +kernel) ⟨Nat.le_of_ble_eq_true rfl, Nat.le_of_ble_eq_true rfl⟩, rfl, ht (.instanceMethod yX1_init) (by decide +kernel) rfl⟩ (prC_pre hP hD hK hN) rfl rfl hl.1 rfl (lv_room (Nat.le_of_ble_eq_true rfl)) dX4_init_9 ⟨Nat.le_of_ble_eq_true rfl, Nat.le_of_ble_eq_true rfl⟩) hS (fun q _ h => hFc q h) hFc (fun u1 t H1 locs ht1 hvm hw hB hz1 hk1 hS => ?_)
  obtain ⟨hP1, hD1⟩ := hB
  rw [ht1] at hP1
  obtain ⟨hP, hD⟩ := la_join hP hD hk1 hFc hP1 hD1
  clear hP1 hD1 hk1 hFc hz1
  generalize H1 = H at hP hS ⊢
  have hP : va_P (dC, dI) vwCl ((h, .inr (4, [.null])) :: (oLW tc q1 u1 : va_W)) H := hP
  have hD : va_D A ((h, .inr (4, [.null])) :: (oLW tc q1 u1 : va_W)) := hD
  refine W.widen (k := 3) (n := 22) (by omega) (by omega) ?_
  refine va_putF (D := (dC, dI)) (ci := 4) (v := .ref q1) (ty := .object "GroupTables$LeftMatches") (C := RX4) (T := TX4) (N := 1) hx hb hts (fun w hw => List.mem_cons_of_mem _ (lwG_in (inX4 w hw) (u_good w hw))) tyX4 tyX4_ok nmX4 hown hK hP hD hS 0 rfl rfl 0 (by decide) (ht (.fieldLink RX4 10 "GroupTables$Scores" "matches" "LGroupTables$LeftMatches;") (by decide +kernel) rfl) (fun _ h9 => h9) rfl hin rfl (by decide +kernel) rfl rfl (Nat.le_of_ble_eq_true rfl) dX4_init_12 (fun H locs hP hD hS => ?_)
  have hP : va_P (dC, dI) vwCl ((h, .inr (4, [.ref q1])) :: (oLW tc q1 u1 : va_W)) H := hP
  have hD : va_D A ((h, .inr (4, [.ref q1])) :: (oLW tc q1 u1 : va_W)) := hD
  refine W.widen (k := 3) (n := 22) (by omega) (by omega) ?_
  exact W.vret hx hb hr (fun t ht hW => ⟨⟨(q1, u1), rfl, trivial, by rw [ht]; exact hP, hD⟩, hS.F ht⟩) hS.2.2 dX4_init_15
end Mk1
