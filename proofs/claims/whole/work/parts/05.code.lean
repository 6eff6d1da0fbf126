def okO (c : Nat) (cc : ByteArray) (pc : Nat) (op : OP) : Bool := decide (decode cc pc = .ok (op.1, op.2.1)) && (match op.1 with
  | .iconst n => decide (op.2.1 = 1) && decide (Int32.ofInt n = op.2.2.2.2)
  | .bipush n => decide (op.2.1 = 2) && decide ((Int8.ofInt n).toInt32 = op.2.2.2.2)
  | .sipush n => decide (op.2.1 = 3) && decide ((Int16.ofInt n).toInt32 = op.2.2.2.2)
  | .lconst n => decide (op.2.1 = 1) && decide (Int64.ofNat (n : Nat) = op.2.2.2.2.toInt64)
  | .iload_n k => decide (op.2.1 = 1) && decide ((k : Nat) = op.2.2.1)
  | .aload_n k => decide (op.2.1 = 1) && decide ((k : Nat) = op.2.2.1)
  | .istore_n k => decide (op.2.1 = 1) && decide ((k : Nat) = op.2.2.1)
  | .astore_n k => decide (op.2.1 = 1) && decide ((k : Nat) = op.2.2.1)
  | .iload k => decide (op.2.1 = 2) && decide (k = op.2.2.1)
  | .aload k => decide (op.2.1 = 2) && decide (k = op.2.2.1)
  | .istore k => decide (op.2.1 = 2) && decide (k = op.2.2.1)
  | .astore k => decide (op.2.1 = 2) && decide (k = op.2.2.1)
  | .iinc k n => decide (op.2.1 = 3) && decide (k = op.2.2.1) && decide (Int32.ofInt n = op.2.2.2.2)
  | .getfield ix => decide (op.2.1 = 3) && decide ((c, ix, op.2.2.2.1, op.2.2.1) ∈ FR) && decide (nI op.2.2.1 = op.2.2.2.2)
  | .putfield ix => decide (op.2.1 = 3) && decide ((c, ix, op.2.2.2.1, op.2.2.1) ∈ FR) && decide (nI op.2.2.1 = op.2.2.2.2) && decide (((vC op.2.2.2.1).2.1 op.2.2.1).2.2.1 = "I") && decide (((vC op.2.2.2.1).2.1 op.2.2.1).2.2.2 = false)
  | .getstatic ix => decide (op.2.1 = 3) && decide ((c, ix, op.2.2.1) ∈ SRl)
  | .invokestatic ix => decide (op.2.1 = 3) && decide (c = 6) && decide (ix = 73)
  | _ => decide (op.2.1 = 1))
def okOs (c : Nat) (cc : ByteArray) : Nat → List OP → Bool
  | _, [] => true
  | pc, op :: ops => okO c cc pc op && okOs c cc (pc + op.2.1) ops
def pcE : Nat → List OP → Nat
  | pc, [] => pc
  | pc, op :: ops => pcE (pc + op.2.1) ops
/-- where a stretch begins -/
def sPc (y i : Nat) : Option Nat := ((code9 y)[i]?).map (fun q => q.1)
/-- the catches of a method as its table has them; every call lies in them -/
def hnT (y : Nat) : List (Nat × Nat) := match mHh y with
  | none => []
  | some hh => hh.map fun q => (q.2.2.1, q.2.2.2)
def ctI (e : Nat) : Nat := ([21, 13, 15] : List Nat).getD e 0
def tbOk (y pc : Nat) : Bool := match mHh y with
  | none => true
  | some hh => hh.all fun q => decide (q.1 ≤ pc) && decide (pc < q.2.1)
def okT (y : Nat) (cc : ByteArray) (pc : Nat) (t : Instr × Nat × Nat × Nat) : Bool := match t.1 with
  | .nop => decide (sPc y t.2.2.1 = some pc)
  | .goto off => decide (decode cc pc = .ok (.goto off, 3)) && decide ((sPc y t.2.2.1).map Int.ofNat = some ((pc : Int) + off))
  | .ifCond q off => decide (decode cc pc = .ok (.ifCond q off, 3)) && decide ((sPc y t.2.2.1).map Int.ofNat = some ((pc : Int) + off)) && decide (sPc y t.2.2.2 = some (pc + 3))
  | .if_icmp q off => decide (decode cc pc = .ok (.if_icmp q off, 3)) && decide ((sPc y t.2.2.1).map Int.ofNat = some ((pc : Int) + off)) && decide (sPc y t.2.2.2 = some (pc + 3))
  | .ireturn => decide (decode cc pc = .ok (.ireturn, 1)) && (decide (mRt y = some .int) || (decide (mRt y = some .boolean) && decide (t.2.2.1 = 1)))
  | .areturn => decide (decode cc pc = .ok (.areturn, 1)) && decide (mRt y = some (.object "GroupTables$Group"))
  | .return_ => decide (decode cc pc = .ok (.return_, 1)) && decide (mRt y = none)
  | .new ik => decide (mOw y = 7) && decide (mHh y = none) && (EXl.any fun q => decide (q.1 = t.2.2.1) && decide (q.2.1 = ik) && decide (decode cc (pc + 6) = .ok (.invokespecial q.2.2, 3))) && decide (t.2.2.2 ∈ STl.map (fun q => q.1)) && decide (decode cc pc = .ok (.new ik, 3)) && decide (decode cc (pc + 3) = .ok (.dup, 1)) && decide (decode cc (pc + 4) = .ok (.ldc t.2.2.2, 2)) && decide (decode cc (pc + 9) = .ok (.athrow, 1))
  | .tableswitch df lo hi offs => decide (decode cc pc = .ok (.tableswitch df lo hi offs, t.2.1)) && decide (lo = 0) && decide (hi = 25) && decide (offs.size = 26) && decide ((sPc y (tsw.getD 26 0)).map Int.ofNat = some ((pc : Int) + df)) && (List.range 26).all (fun j => decide ((sPc y (tsw.getD j (tsw.getD 26 0))).map Int.ofNat = (offs[j]?).map (fun off => (pc : Int) + off)))
  | .invokevirtual ix => decide (decode cc pc = .ok (.invokevirtual ix, 3)) && decide ((mOw y, ix, t.2.2.1) ∈ MR) && decide (sPc y t.2.2.2 = some (pc + 3)) && (mRc t.2.2.1).isSome && decide (t.2.2.1 < 168) && decide (mHh t.2.2.1 = none) && tbOk y pc
  | .invokestatic ix => decide (decode cc pc = .ok (.invokestatic ix, 3)) && decide ((mOw y, ix, t.2.2.1) ∈ MR) && decide (sPc y t.2.2.2 = some (pc + 3)) && decide (mRc t.2.2.1 = none) && decide (t.2.2.1 < 168) && tbOk y pc
  | _ => false
def okY (y : Nat) : Bool := (code9 y).all fun sg => okOs (mOw y) (mBy y) sg.1 sg.2.1 && okT y (mBy y) (pcE sg.1 sg.2.1) sg.2.2
def astOk (cc : ByteArray) (h : Nat × Nat × Nat × Nat) (nx : Option Nat) : Bool := (decide (h.2.2.1 < 4) && decide (nx = some (h.2.1 + 1)) && (match decode cc h.2.1 with | .ok (.astore_n k, 1) => decide ((k : Nat) = h.2.2.1) | _ => false)) || (decide (nx = some (h.2.1 + 2)) && (match decode cc h.2.1 with | .ok (.astore k, 2) => decide (k = h.2.2.1) | _ => false))
/-- a method's catches: in the order of its table, at those bytes, of those classes; none of a class twice -/
def okH (y : Nat) : Bool := decide (hnT y = (mHn y).map (fun h => (h.2.1, ctI h.1))) && (mHn y).all (fun h => decide (h.1 < 3) && decide (h.2.2.1 < mLo y) && astOk (mBy y) h (sPc y h.2.2.2)) && decide ((mHh y).isSome = !(mHn y).isEmpty) && (decide (mHn y = []) || decide (mOw y = 9)) && decide (((mHn y).map (fun h => h.1)).Nodup)
theorem okH_all : ∀ y, y < 169 → okH y = true := by decide +kernel
theorem okY_0 : ∀ y, y < 24 → okY (y + 0) = true := by decide +kernel
theorem okY_24 : ∀ y, y < 24 → okY (y + 24) = true := by decide +kernel
theorem okY_48 : ∀ y, y < 24 → okY (y + 48) = true := by decide +kernel
theorem okY_72 : ∀ y, y < 24 → okY (y + 72) = true := by decide +kernel
theorem okY_96 : ∀ y, y < 24 → okY (y + 96) = true := by decide +kernel
theorem okY_120 : ∀ y, y < 24 → okY (y + 120) = true := by decide +kernel
theorem okY_144 : ∀ y, y < 24 → okY (y + 144) = true := by decide +kernel
def okSg (y : Nat) (sg : SG) : Bool := okOs (mOw y) (mBy y) sg.1 sg.2.1 && okT y (mBy y) (pcE sg.1 sg.2.1) sg.2.2
theorem okY_law_0 : cd_L_law_0.all (okSg 168) = true := by decide +kernel
theorem okY_law_1 : cd_L_law_1.all (okSg 168) = true := by decide +kernel
theorem okY_law_2 : cd_L_law_2.all (okSg 168) = true := by decide +kernel
theorem okY_law_3 : cd_L_law_3.all (okSg 168) = true := by decide +kernel
theorem okY_law_4 : cd_L_law_4.all (okSg 168) = true := by decide +kernel
theorem okY_law_5 : cd_L_law_5.all (okSg 168) = true := by decide +kernel
theorem okY_law_6 : cd_L_law_6.all (okSg 168) = true := by decide +kernel
theorem okY_law_7 : cd_L_law_7.all (okSg 168) = true := by decide +kernel
theorem okY_law_8 : cd_L_law_8.all (okSg 168) = true := by decide +kernel
theorem okY_law_9 : cd_L_law_9.all (okSg 168) = true := by decide +kernel
theorem okY_law_10 : cd_L_law_10.all (okSg 168) = true := by decide +kernel
theorem okY_law_11 : cd_L_law_11.all (okSg 168) = true := by decide +kernel
theorem okY_law_12 : cd_L_law_12.all (okSg 168) = true := by decide +kernel
theorem okY_law_13 : cd_L_law_13.all (okSg 168) = true := by decide +kernel
theorem okY_law_14 : cd_L_law_14.all (okSg 168) = true := by decide +kernel
theorem okY_law : okY 168 = true := by
  show cd_L_law.all (okSg 168) = true
  unfold cd_L_law
  simp only [List.all_append, okY_law_0, okY_law_1, okY_law_2, okY_law_3, okY_law_4, okY_law_5, okY_law_6, okY_law_7, okY_law_8, okY_law_9, okY_law_10, okY_law_11, okY_law_12, okY_law_13, okY_law_14, Bool.and_self]
theorem okY_all : ∀ y, y < 169 → okY y = true := by
  intro y hy
  by_cases h0 : y < 24
  · have h := okY_0 (y - 0) (by omega)
    rwa [Nat.sub_add_cancel (by omega)] at h
  by_cases h24 : y < 48
  · have h := okY_24 (y - 24) (by omega)
    rwa [Nat.sub_add_cancel (by omega)] at h
  by_cases h48 : y < 72
  · have h := okY_48 (y - 48) (by omega)
    rwa [Nat.sub_add_cancel (by omega)] at h
  by_cases h72 : y < 96
  · have h := okY_72 (y - 72) (by omega)
    rwa [Nat.sub_add_cancel (by omega)] at h
  by_cases h96 : y < 120
  · have h := okY_96 (y - 96) (by omega)
    rwa [Nat.sub_add_cancel (by omega)] at h
  by_cases h120 : y < 144
  · have h := okY_120 (y - 120) (by omega)
    rwa [Nat.sub_add_cancel (by omega)] at h
  by_cases h144 : y < 168
  · have h := okY_144 (y - 144) (by omega)
    rwa [Nat.sub_add_cancel (by omega)] at h
  have e : y = 168 := by omega
  subst e
  exact okY_law
