/-! the law, from its entry -/
section Fin
theorem dl_0 : decode code 0 = .ok (.new 8, 3) := by decide +kernel
theorem dl_3 : decode code 3 = .ok (.dup, 1) := by decide +kernel
theorem dl_4 : decode code 4 = .ok (.invokespecial 92, 3) := by decide +kernel
theorem dl_7 : decode code 7 = .ok (.astore_n 1, 1) := by decide +kernel
theorem dl_8 : decode code 8 = .ok (.new 93, 3) := by decide +kernel
theorem dl_11 : decode code 11 = .ok (.dup, 1) := by decide +kernel
theorem dl_12 : decode code 12 = .ok (.invokespecial 95, 3) := by decide +kernel
theorem dl_15 : decode code 15 = .ok (.astore_n 2, 1) := by decide +kernel
theorem dl_16 : decode code 16 = .ok (.iconst 1, 1) := by decide +kernel
theorem dl_17 : decode code 17 = .ok (.newarray .long, 2) := by decide +kernel
theorem dl_19 : decode code 19 = .ok (.astore_n 3, 1) := by decide +kernel
theorem dl_20 : decode code 20 = .ok (.iconst 0, 1) := by decide +kernel
theorem dl_21 : decode code 21 = .ok (.istore 4, 2) := by decide +kernel
theorem lF_c : ∀ cA : ClassId, vp_cell cA (1, .inr (.inl (fun j => if j = 0 then 0 else 0))) = arrV cA 1 (fun _ => defaultValue .long) := fun cA => by
  rw [vp_cell_l]
  refine congrArg (arrV cA 1) (funext fun j => ?_)
  split <;> rfl
theorem adF_ro {h : Nat} {u : oCU} {m : Nat} {v : Nat → Nat} {o : Nat} {ro : Nat → Nat} {k : Nat} (hk : 51 ≤ k) (a b : Int32) : adF h u m v o ro k a b = ro k := by
  unfold adF
  split <;> first | omega | rfl
set_option maxRecDepth 100000 in
set_option maxHeartbeats 4000000 in
theorem start_W {p : Program} {e : Env} {s : State} {m : MethodId} {below : List Frame} {meth : Method} {c : Code} {Q : State → Prop} (l : Launch) (hst : l.stackTraces = false) {b L : Nat} {xz : Nat → Int32} (hL : L ≤ 2560) (hx : p.tables.exec = Jvm.exec) (hb : c.code = code) (hr : meth.sig.returnType = ret) (hml : c.maxLocals = 7) (hown : s.vm.findClass RL = some m.cls) (hts : ∀ w ∈ lw_tbl, w.before #[Value.ref b] s = true) (hX : va_X b L xz s s.heap) (hbl : b < s.heap.size) (hlocks : meth.locks = false) (hgv : (Jvm.Cond.and given_1 narrow_1).before #[Value.ref b] s = true)
    (kk : ∀ (pc : Nat) (ls : Array Slot) (H : Heap), decode code pc = .ok (.ireturn, 1) → W p l e room_1 s m #[Value.ref b] below meth c H [] 655787 7128743 Q (F0 m pc ls [.int 1])) :
    W p l e room_1 s m #[Value.ref b] below meth c s.heap [] 0 0 Q (entryFrame m ([Value.ref b] : List Value).toArray 7) := by
  obtain ⟨dC, dI, hKc⟩ := kn_all hts
  obtain ⟨tc, hTc⟩ := tc_all hts
  have hK : va_K (dC, dI) vwCl (tyW tc) s := ⟨hKc, hTc⟩
  have hN := NW_0 hts
  have hA : ∀ q : Nat, s.heap.size ≤ q → (fun q : Nat => s.heap.size ≤ q) q := fun _ h => h
  have hS : va_S (fun q : Nat => s.heap.size ≤ q) s.heap s.heap [] := va_S.rf
  have hP : va_P (dC, dI) vwCl [] s.heap := fun k q h => by simp at h
  have hD : va_D (fun q : Nat => s.heap.size ≤ q) [] := ⟨fun i j p q h => by simp at h, fun k q h => by simp at h⟩
  have hl := lv_entry ([.ref b]) (n := 7) (Nat.le_of_ble_eq_true rfl)
  rw [lg_entry_eq]
  generalize (lg_sl ([.ref b]) ++ List.replicate (7 - (lg_sl ([.ref b])).length) Slot.unset).toArray = ls at hl ⊢
  have hl : lv_has ls 7 [(0, .ref b)] := hl
  refine va_new (ci := 7) (fs := [.null, .null, .null, .null, .null, .int 0, .int 0, .int 0, .int 0]) (C := RX7) (T := TX7) (N := 9) hx hb hts inX7 tyX7 tyX7_ok hown (hts (.classLink RL 8 RX7) (by decide +kernel)) (hts (.instantiable RX7 9) (by decide +kernel)) (hts (.initialized RX7) (by decide +kernel)) hK hP hD hS hA rfl (fun j hj => by rcases (show j = 0 ∨ j = 1 ∨ j = 2 ∨ j = 3 ∨ j = 4 ∨ j = 5 ∨ j = 6 ∨ j = 7 ∨ j = 8 by omega) with rfl | rfl | rfl | rfl | rfl | rfl | rfl | rfl | rfl <;> rfl) (Nat.le_of_ble_eq_true rfl) (Nat.le_of_ble_eq_true rfl) dl_0 (fun q7 H hP hD hS => ?_)
  have hP : va_P (dC, dI) vwCl (([] : va_W) ++ [(q7, .inr (7, [.null, .null, .null, .null, .null, .int 0, .int 0, .int 0, .int 0]))]) H := hP
  have hD : va_D (fun q : Nat => s.heap.size ≤ q) (([] : va_W) ++ [(q7, .inr (7, [.null, .null, .null, .null, .null, .int 0, .int 0, .int 0, .int 0]))]) := hD
  refine W.widen (k := 1) (n := 9) (by omega) (by omega) ?_
  refine lv_dup hx hb dl_3 rfl ?_
  have hFc := la_A hD hS hA
  refine va_callv (va_runI (As := []) (rest := [.ref q7]) ⟨hx, hb, hml, hown, hts⟩ (ct_X7 l tc dC dI q7 H.size) (cwI 0 hts (good_law (by decide +kernel) rfl) rfl rfl rfl (hts (.initialized RX7) (by decide +kernel)) (hts (.methodLink RL 92 yX7_init) (by decide +kernel)) (hts (.instanceMethod yX7_init) (by decide +kernel)) rfl (by decide +kernel) ⟨Nat.le_of_ble_eq_true rfl, Nat.le_of_ble_eq_true rfl⟩) (prC_pre hP hD hK hN) rfl rfl hl.1 rfl (lv_room (Nat.le_of_ble_eq_true rfl)) dl_4 ⟨Nat.le_of_ble_eq_true rfl, Nat.le_of_ble_eq_true rfl⟩) hS (fun q _ h => hFc q h) hFc (fun u7 t H1 locs ht1 hvm hw hB hz1 hk1 hS => ?_)
  obtain ⟨hP1, hD1⟩ := hB
  rw [ht1] at hP1
  obtain ⟨hP, hD⟩ := la_join hP hD hk1 hFc hP1 hD1
  clear hP1 hD1 hk1 hFc hz1
  generalize H1 = H at hP hS ⊢
  have hP : va_P (dC, dI) vwCl (oCW tc q7 u7) H := hP
  have hD : va_D (fun q : Nat => s.heap.size ≤ q) (oCW tc q7 u7) := hD
  refine W.widen (k := 96) (n := 485) (by omega) (by omega) ?_
  refine lv_astore_n (lv' := [(1, .ref q7), (0, .ref b)]) hx hb dl_7 rfl hl (by decide) rfl (fun ls hl => ?_)
  refine va_new (ci := 8) (fs := [.int 0, .int 0, .int 0, .int 0, .null, .null, .null, .null, .null, .null, .null, .null, .null, .null, .null, .null, .int 0]) (C := RX8) (T := TX8) (N := 17) hx hb hts inX8 tyX8 tyX8_ok hown (hts (.classLink RL 93 RX8) (by decide +kernel)) (hts (.instantiable RX8 17) (by decide +kernel)) (hts (.initialized RX8) (by decide +kernel)) hK hP hD hS hA rfl (fun j hj => by rcases (show j = 0 ∨ j = 1 ∨ j = 2 ∨ j = 3 ∨ j = 4 ∨ j = 5 ∨ j = 6 ∨ j = 7 ∨ j = 8 ∨ j = 9 ∨ j = 10 ∨ j = 11 ∨ j = 12 ∨ j = 13 ∨ j = 14 ∨ j = 15 ∨ j = 16 by omega) with rfl | rfl | rfl | rfl | rfl | rfl | rfl | rfl | rfl | rfl | rfl | rfl | rfl | rfl | rfl | rfl | rfl <;> rfl) (Nat.le_of_ble_eq_true rfl) (Nat.le_of_ble_eq_true rfl) dl_8 (fun q8 H hP hD hS => ?_)
  refine W.widen (k := 97) (n := 502) (by omega) (by omega) ?_
  refine lv_dup hx hb dl_11 rfl ?_
  have hFc := la_A hD hS hA
  refine va_callv (va_runI (As := []) (rest := [.ref q8]) ⟨hx, hb, hml, hown, hts⟩ (ct_X8 l tc dC dI q8 H.size) (cwI 0 hts (good_law (by decide +kernel) rfl) rfl rfl rfl (hts (.initialized RX8) (by decide +kernel)) (hts (.methodLink RL 95 yX8_init) (by decide +kernel)) (hts (.instanceMethod yX8_init) (by decide +kernel)) rfl (by decide +kernel) ⟨Nat.le_of_ble_eq_true rfl, Nat.le_of_ble_eq_true rfl⟩) (prC_pre hP hD hK hN) rfl rfl hl.1 rfl (lv_room (Nat.le_of_ble_eq_true rfl)) dl_12 ⟨Nat.le_of_ble_eq_true rfl, Nat.le_of_ble_eq_true rfl⟩) hS (fun q _ h => hFc q h) hFc (fun u8 t H1 locs ht1 hvm hw hB hz1 hk1 hS => ?_)
  obtain ⟨hP1, hD1⟩ := hB
  rw [ht1] at hP1
  obtain ⟨hP, hD⟩ := la_join hP hD hk1 hFc hP1 hD1
  clear hP1 hD1 hk1 hFc hz1
  generalize H1 = H at hP hS ⊢
  refine W.widen (k := 109) (n := 839) (by omega) (by omega) ?_
  refine lv_astore_n (lv' := [(2, .ref q8), (1, .ref q7), (0, .ref b)]) hx hb dl_15 rfl hl (by decide) rfl (fun ls hl => ?_)
  refine lv_iconst (v := 1) hx hb dl_16 (by decide) ?_
  refine va_newa (ty := .long) (atype := .long) (a0 := (1, .inr (.inl (fun j => if j = 0 then 0 else 0)))) (N' := 1) hx hb (hts (.arrayClass .long) (by decide +kernel)) rfl hK hP hD hS hA lF_c (by decide) rfl (Nat.le_of_ble_eq_true rfl) (Nat.le_of_ble_eq_true rfl) (Nat.le_of_ble_eq_true rfl) dl_17 (fun o cA H hK1 hP hD hS => ?_)
  obtain rfl := tc_3 hK hK1
  have hP : va_P (dC, dI) vwCl (oCW tc q7 u7 ++ oRW tc q8 u8 ++ [(o, oLE tc)]) H := hP
  have hD : va_D (fun q : Nat => s.heap.size ≤ q) (oCW tc q7 u7 ++ oRW tc q8 u8 ++ [(o, oLE tc)]) := hD
  refine W.widen (k := 110) (n := 840) (by omega) (by omega) ?_
  refine lv_astore_n (lv' := [(3, .ref o), (2, .ref q8), (1, .ref q7), (0, .ref b)]) hx hb dl_19 rfl hl (by decide) rfl (fun ls hl => ?_)
  refine lv_iconst (v := 0) hx hb dl_20 (by decide) ?_
  refine lv_istore (lv' := [(4, .int 0), (3, .ref o), (2, .ref q8), (1, .ref q7), (0, .ref b)]) hx hb dl_21 hl (by decide) rfl (fun ls hl => ?_)
  obtain ⟨ro, hro, hGl⟩ := GL_0 hts hX hbl hL hgv
  have hps := pos_ok tc q7 u7 q8 u8 o ro _ rfl
  have hWP := P_of hP hps
  have hWD := hD.sub posL pos_nd hps
  have hGl := hGl (adF q7 u7 q8 u8 o ro) (fun k hk => adF_ro hk 0 0)
  have h53 : adF q7 u7 q8 u8 o ro 53 0 0 = b := (adF_ro (by decide) 0 0).trans hro
  have e0 : adF q7 u7 q8 u8 o ro 0 0 0 = q7 := rfl
  have e30 : adF q7 u7 q8 u8 o ro 30 0 0 = q8 := rfl
  have e43 : adF q7 u7 q8 u8 o ro 43 0 0 = o := rfl
  generalize adF q7 u7 q8 u8 o ro = ad at hWP hWD hGl h53 e0 e30 e43
  obtain ⟨Z, k, hk, n, hgo⟩ := law_run (sc := (L, xz)) (d := 0) hL (L / 5) 0 (Nat.zero_add _) X00 av0 av0 BX_0
  have hk5 : k ≤ 512 := by omega
  refine sim_all (sc := (L, xz)) hst n (0 + 40) 168 0 (lwL (vI (nI (5 * 0))) av0 av0) [] X00 (.inl (some (.inl 1))) Z k hgo (tc := tc) (ad := ad) (dC := dC) (dI := dI) (A := (fun q : Nat => s.heap.size ≤ q)) (mc := 110 + k) (ms := 840 + 6 * k) ⟨hx, hb, hml, hr, hlocks, hown, fun w hw => hts w (List.mem_filter.mp hw).1, hK, hA, hGl⟩ (show 0 + 40 + 8 ≤ 2048 by omega) (show 60 * (0 + 40) + 200 ≤ 84000 by omega) rfl rfl (show 110 + k ≤ 655787 by omega) (show 840 + 6 * k ≤ 7128743 by omega) ⟨fun v pc ls H locs ho hd hrt hW => ?_, fun r pc ls H locs ho => (by cases ho), fun pc ls H locs ho => (by cases ho), fun x is pc cells slots ls H locs ho => (by cases ho), fun x pc ls H locs rest q ce ho => (by cases ho), fun h9 pc pt cells slots L9 ls H locs rest q ce hm => (by cases hm)⟩ 23 rfl ls H locs ⟨hWP, hWD, hS⟩ ⟨⟨hl.1, hl.2.1, fun i v hv h1 => ?_⟩, rfl, fun v hv => ?_⟩ (fun v hv => nomatch hv)
  · cases ho
    exact va_forget hW.2.2.2.2 (W.widen (k := 655787) (n := 7128743) (by omega) (by omega) (kk pc ls H hd))
  · match i, hv with
    | 0, hv =>
      cases hv
      show ls[0]? = some (.val (.ref (ad 53 0 0)))
      rw [h53]
      exact hl.2.2 (0, .ref b) (by simp)
    | 1, hv =>
      cases hv
      show ls[1]? = some (.val (.ref (ad 0 0 0)))
      rw [e0]
      exact hl.2.2 (1, .ref q7) (by simp)
    | 2, hv =>
      cases hv
      show ls[2]? = some (.val (.ref (ad 30 0 0)))
      rw [e30]
      exact hl.2.2 (2, .ref q8) (by simp)
    | 3, hv =>
      cases hv
      show ls[3]? = some (.val (.ref (ad 43 0 0)))
      rw [e43]
      exact hl.2.2 (3, .ref o) (by simp)
    | 4, hv =>
      cases hv
      exact hl.2.2 (4, .int 0) (by simp)
    | 5, hv =>
      cases hv
      cases h1
    | 6, hv =>
      cases hv
      cases h1
    | i + 7, hv => simp at hv
  · simp only [List.mem_cons, List.not_mem_nil, or_false] at hv
    rcases hv with rfl | rfl | rfl | rfl | rfl | rfl | rfl
    · exact Or.inr ⟨by decide, rfl, rfl⟩
    · exact Or.inl (by decide +kernel)
    · exact Or.inl (by decide +kernel)
    · exact Or.inl (by decide +kernel)
    · exact trivial
    · exact trivial
    · exact trivial
end Fin
