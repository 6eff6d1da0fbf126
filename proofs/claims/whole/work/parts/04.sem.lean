/-! THE ABSTRACT MACHINE: what the methods do to numbers alone, once all objects are made.
A reference is (kind, a, b); X k a b j is the int in place j of it; .2 is the one long of the law's own array. -/
abbrev AV : Type := Int32 ⊕ (Int64 ⊕ (Nat × Int32 × Int32))
abbrev XF : Type := Nat → Int32 → Int32 → Int32 → Int32
abbrev XT : Type := XF × Int64
abbrev SC : Type := Nat × (Nat → Int32)
/-- an instruction, its length, a place (of a local, of a field), a kind's number, a number -/
abbrev OP : Type := Instr × Nat × Nat × Nat × Int32
/-- a stretch: its first byte, its straight instructions, its last one: that, its length, two numbers -/
abbrev SG : Type := Nat × List OP × Instr × Nat × Nat × Nat
abbrev OUT : Type := Option AV ⊕ Nat
/-- a kind's form: an object (its number in vwCl, its fields: a reference's kind or an int), ints, longs, references (which array, how many, of which kind) -/
abbrev SH : Type := (Nat × List (Option Nat)) ⊕ (Nat ⊕ (Nat ⊕ (Nat × Nat × Nat)))
def kTab : List (Option (Nat × Nat × SH)) := [some (1, 1, .inl (7, [some 1, some 8, some 15, some 19, some 25, none, none, none, none])),
  some (1, 1, .inr (.inr (.inr (2, 6, 2)))),
  some (1, 6, .inl (0, [some 3, some 5, some 6, some 7, none, none])),
  some (1, 6, .inr (.inr (.inr (1, 5, 4)))),
  some (6, 5, .inr (.inl 5)),
  some (1, 6, .inr (.inl 5)),
  some (1, 6, .inr (.inl 5)),
  some (1, 6, .inr (.inl 5)),
  some (1, 1, .inl (5, [some 9, some 12, some 13])),
  some (1, 1, .inl (2, [some 10])),
  some (1, 1, .inr (.inr (.inr (1, 5, 11)))),
  some (1, 5, .inr (.inl 4)),
  some (1, 1, .inr (.inl 5)),
  some (1, 1, .inr (.inr (.inr (1, 5, 14)))),
  some (1, 5, .inr (.inl 5)),
  some (1, 1, .inl (6, [some 16])),
  some (1, 1, .inl (2, [some 17])),
  some (1, 1, .inr (.inr (.inr (1, 6, 18)))),
  some (1, 6, .inr (.inl 5)),
  some (1, 1, .inl (3, [some 20, some 23, some 24, none, none, none, none])),
  some (1, 1, .inl (1, [some 21, some 22])),
  some (1, 1, .inr (.inl 10)),
  some (1, 1, .inr (.inl 10)),
  some (1, 1, .inr (.inl 5)),
  some (1, 1, .inr (.inl 5)),
  some (1, 1, .inl (4, [some 26])),
  some (1, 1, .inl (1, [some 27, some 28])),
  some (1, 1, .inr (.inl 10)),
  some (1, 1, .inr (.inl 10)),
  none,
  some (1, 1, .inl (8, [none, none, none, none, some 31, some 32, some 33, some 34, some 35, some 36, some 37, some 38, some 39, some 40, some 41, some 42, none])),
  some (1, 1, .inr (.inl 6)),
  some (1, 1, .inr (.inl 6)),
  some (1, 1, .inr (.inl 30)),
  some (1, 1, .inr (.inl 30)),
  some (1, 1, .inr (.inl 30)),
  some (1, 1, .inr (.inl 30)),
  some (1, 1, .inr (.inl 150)),
  some (1, 1, .inr (.inl 5)),
  some (1, 1, .inr (.inl 5)),
  some (1, 1, .inr (.inl 25)),
  some (1, 1, .inr (.inl 15)),
  some (1, 1, .inr (.inl 5)),
  some (1, 1, .inr (.inr (.inl 1)))]
def kSh (k : Nat) : Option SH := (kTab.getD k none).map (fun q => q.2.2)
def roN (sc : SC) (k : Nat) : Nat := match k with
  | 51 => 3
  | 52 => 3
  | 53 => sc.1
  | _ => 0
def roV (sc : SC) (k : Nat) (j : Nat) : Int32 := match k with
  | 51 => ([3, 1, 0] : List Int32).getD j 0
  | 52 => ([0, 1, 3] : List Int32).getD j 0
  | 53 => sc.2 j
  | _ => 0
/-- one int put -/
def xs (X : XF) (k : Nat) (a b j x : Int32) : XF := fun k' a' b' j' => if k' = k ∧ a' = a ∧ b' = b ∧ j' = j then x else X k' a' b' j'
abbrev RS : Type := List AV × List AV × XT × Prop
def rs0 : RS := ([], [], (fun _ _ _ _ => 0, 0), False)
def ldI (L : List AV) (i : Nat) (S : List AV) (X : XT) : RS := match L[i]? with
  | some (.inl x) => (L, .inl x :: S, X, True)
  | _ => rs0
def ldA (L : List AV) (i : Nat) (S : List AV) (X : XT) : RS := match L[i]? with
  | some (.inr (.inr r)) => (L, .inr (.inr r) :: S, X, True)
  | _ => rs0
def stI (L : List AV) (i : Nat) (x : Int32) (S : List AV) (X : XT) : RS := (L.set i (.inl x), S, X, i < L.length)
def stA (L : List AV) (i : Nat) (r : Nat × Int32 × Int32) (S : List AV) (X : XT) : RS := (L.set i (.inr (.inr r)), S, X, i < L.length)
def inc (L : List AV) (i : Nat) (v : Int32) (S : List AV) (X : XT) : RS := match L[i]? with
  | some (.inl x) => (L.set i (.inl (x + v)), S, X, True)
  | _ => rs0
def gtF (L : List AV) (k : Nat) (a b : Int32) (i c : Nat) (v : Int32) (S : List AV) (X : XT) : RS := match kSh k with
  | some (.inl (ci, fs)) => match fs[i]? with
    | some (some k') => (L, .inr (.inr (k', a, b)) :: S, X, ci = c)
    | some none => (L, .inl (X.1 k a b v) :: S, X, ci = c)
    | none => rs0
  | _ => rs0
def ptF (L : List AV) (x : Int32) (k : Nat) (a b : Int32) (i c : Nat) (v : Int32) (S : List AV) (X : XT) : RS := match kSh k with
  | some (.inl (ci, fs)) => match fs[i]? with
    | some none => (L, S, (xs X.1 k a b v x, X.2), ci = c)
    | _ => rs0
  | _ => rs0
def ldX (sc : SC) (L : List AV) (j : Int32) (k : Nat) (a b : Int32) (S : List AV) (X : XT) : RS := match kSh k with
  | some (.inr (.inl n)) => (L, .inl (X.1 k a b j) :: S, X, vp_in j n)
  | some _ => rs0
  | none => (L, .inl (roV sc k j.toNatClampNeg) :: S, X, 51 ≤ k ∧ vp_in j (roN sc k))
def stX (L : List AV) (x j : Int32) (k : Nat) (a b : Int32) (S : List AV) (X : XT) : RS := match kSh k with
  | some (.inr (.inl n)) => (L, S, (xs X.1 k a b j x, X.2), vp_in j n)
  | _ => rs0
def ldR (L : List AV) (j : Int32) (k : Nat) (b : Int32) (S : List AV) (X : XT) : RS := match kSh k with
  | some (.inr (.inr (.inr (_, n, e)))) => (L, .inr (.inr (e, b, j)) :: S, X, vp_in j n)
  | _ => rs0
def ldL (L : List AV) (j : Int32) (k : Nat) (S : List AV) (X : XT) : RS := match kSh k with
  | some (.inr (.inr (.inl n))) => (L, .inr (.inl X.2) :: S, X, vp_in j n ∧ n = 1)
  | _ => rs0
def stL (L : List AV) (x : Int64) (j : Int32) (k : Nat) (S : List AV) (X : XT) : RS := match kSh k with
  | some (.inr (.inr (.inl n))) => (L, S, (X.1, x), vp_in j n ∧ n = 1)
  | _ => rs0
def dp1 (L : List AV) (x : AV) (S : List AV) (X : XT) : RS := match x with
  | .inr (.inl _) => rs0
  | x => (L, x :: x :: S, X, True)
def dp2 (L : List AV) (x y : AV) (S : List AV) (X : XT) : RS := match x, y with
  | .inl x, .inl y => (L, .inl x :: .inl y :: .inl x :: .inl y :: S, X, True)
  | .inl x, .inr (.inr r) => (L, .inl x :: .inr (.inr r) :: .inl x :: .inr (.inr r) :: S, X, True)
  | _, _ => rs0
def avc (v : AV) : Nat := match v with
  | .inr (.inl _) => 2
  | _ => 1
abbrev av0 : AV := .inr (.inl 0)
/-- one straight instruction: locals, stack, numbers behind it, and what it asks -/
def sx (sc : SC) (op : OP) (L S : List AV) (X : XT) : RS := match op.1 with
  | .iconst _ => (L, .inl op.2.2.2.2 :: S, X, True)
  | .bipush _ => (L, .inl op.2.2.2.2 :: S, X, True)
  | .sipush _ => (L, .inl op.2.2.2.2 :: S, X, True)
  | .lconst _ => (L, .inr (.inl (op.2.2.2.2.toInt64)) :: S, X, True)
  | .iload_n _ => ldI L op.2.2.1 S X
  | .iload _ => ldI L op.2.2.1 S X
  | .aload_n _ => ldA L op.2.2.1 S X
  | .aload _ => ldA L op.2.2.1 S X
  | .istore_n _ => match S with
    | .inl x :: S => stI L op.2.2.1 x S X
    | _ => rs0
  | .istore _ => match S with
    | .inl x :: S => stI L op.2.2.1 x S X
    | _ => rs0
  | .astore_n _ => match S with
    | .inr (.inr r) :: S => stA L op.2.2.1 r S X
    | _ => rs0
  | .astore _ => match S with
    | .inr (.inr r) :: S => stA L op.2.2.1 r S X
    | _ => rs0
  | .iinc _ _ => inc L op.2.2.1 op.2.2.2.2 S X
  | .getfield _ => match S with
    | .inr (.inr (k, a, b)) :: S => gtF L k a b op.2.2.1 op.2.2.2.1 op.2.2.2.2 S X
    | _ => rs0
  | .putfield _ => match S with
    | .inl x :: .inr (.inr (k, a, b)) :: S => ptF L x k a b op.2.2.1 op.2.2.2.1 op.2.2.2.2 S X
    | _ => rs0
  | .getstatic _ => (L, .inr (.inr (op.2.2.1, 0, 0)) :: S, X, True)
  | .iaload => match S with
    | .inl j :: .inr (.inr (k, a, b)) :: S => ldX sc L j k a b S X
    | _ => rs0
  | .iastore => match S with
    | .inl x :: .inl j :: .inr (.inr (k, a, b)) :: S => stX L x j k a b S X
    | _ => rs0
  | .aaload => match S with
    | .inl j :: .inr (.inr (k, _, b)) :: S => ldR L j k b S X
    | _ => rs0
  | .laload => match S with
    | .inl j :: .inr (.inr (k, _, _)) :: S => ldL L j k S X
    | _ => rs0
  | .lastore => match S with
    | .inr (.inl x) :: .inl j :: .inr (.inr (k, _, _)) :: S => stL L x j k S X
    | _ => rs0
  | .arraylength => match S with
    | .inr (.inr (k, _, _)) :: S => (L, .inl (nI (roN sc k)) :: S, X, k = 53)
    | _ => rs0
  | .dup => match S with
    | x :: S => dp1 L x S X
    | _ => rs0
  | .dup2 => match S with
    | x :: y :: S => dp2 L x y S X
    | _ => rs0
  | .i2l => match S with
    | .inl x :: S => (L, .inr (.inl x.toInt64) :: S, X, True)
    | _ => rs0
  | .lcmp => match S with
    | .inr (.inl y) :: .inr (.inl x) :: S => (L, .inl (lg_cmp x y) :: S, X, True)
    | _ => rs0
  | .ineg => match S with
    | .inl x :: S => (L, .inl (-x) :: S, X, True)
    | _ => rs0
  | .iadd => match S with
    | .inl y :: .inl x :: S => (L, .inl (x + y) :: S, X, True)
    | _ => rs0
  | .isub => match S with
    | .inl y :: .inl x :: S => (L, .inl (x - y) :: S, X, True)
    | _ => rs0
  | .imul => match S with
    | .inl y :: .inl x :: S => (L, .inl (x * y) :: S, X, True)
    | _ => rs0
  | .idiv => match S with
    | .inl y :: .inl x :: S => (L, .inl (x / y) :: S, X, ¬ y = 0)
    | _ => rs0
  | .irem => match S with
    | .inl y :: .inl x :: S => (L, .inl (x - x / y * y) :: S, X, ¬ y = 0)
    | _ => rs0
  | .iand => match S with
    | .inl y :: .inl x :: S => (L, .inl (x &&& y) :: S, X, True)
    | _ => rs0
  | .ior => match S with
    | .inl y :: .inl x :: S => (L, .inl (x ||| y) :: S, X, True)
    | _ => rs0
  | .ishl => match S with
    | .inl y :: .inl x :: S => (L, .inl (x <<< (y &&& 31)) :: S, X, True)
    | _ => rs0
  | .ishr => match S with
    | .inl y :: .inl x :: S => (L, .inl (x >>> (y &&& 31)) :: S, X, True)
    | _ => rs0
  | .invokestatic _ => match S with
    | .inl y :: .inl x :: S => (L, .inl (if y < x then y else x) :: S, X, (S.map avc).sum ≤ 40)
    | _ => rs0
  | _ => rs0
def sxs (sc : SC) : List OP → List AV → List AV → XT → RS
  | [], L, S, X => (L, S, X, True)
  | op :: ops, L, S, X => match sx sc op L S X with
    | (L', S', X', P) => match sxs sc ops L' S' X' with
      | (L2, S2, X2, P2) => (L2, S2, X2, P ∧ P2)
def cz (c : ClassFile.Cond) (x : Int32) : Prop := match c with
  | .eq => x = 0
  | .ne => ¬ x = 0
  | .lt => x < 0
  | .ge => 0 ≤ x
  | .gt => 0 < x
  | .le => x ≤ 0
def ci2 (c : ClassFile.Cond) (x y : Int32) : Prop := match c with
  | .eq => x = y
  | .ne => ¬ x = y
  | .lt => x < y
  | .ge => y ≤ x
  | .gt => y < x
  | .le => x ≤ y
/-- the catches of a method: exception, first byte, local, stretch behind the astore -/
def mHn (y : Nat) : List (Nat × Nat × Nat × Nat) := match y with
  | 143 => [(1, 12, 3, 2), (2, 15, 3, 3)]
  | 144 => [(0, 17, 6, 2), (1, 21, 6, 3)]
  | 145 => [(0, 13, 4, 2), (1, 17, 4, 3), (2, 21, 4, 4)]
  | 146 => [(0, 13, 4, 2), (1, 17, 4, 3)]
  | 147 => [(0, 13, 4, 2), (1, 17, 4, 3)]
  | 148 => [(0, 13, 4, 2), (1, 17, 4, 3)]
  | 149 => [(1, 9, 3, 2)]
  | 150 => [(0, 12, 3, 2)]
  | 151 => [(0, 12, 3, 2)]
  | 152 => [(0, 12, 3, 2)]
  | 153 => [(0, 12, 3, 2)]
  | 154 => [(0, 12, 3, 2)]
  | 155 => [(0, 12, 3, 2)]
  | 156 => [(0, 13, 4, 2)]
  | 157 => [(0, 13, 4, 2), (1, 17, 4, 3)]
  | 158 => [(0, 12, 3, 2)]
  | 159 => [(0, 12, 3, 2)]
  | 160 => [(0, 12, 3, 2)]
  | 161 => [(0, 19, 3, 5)]
  | 162 => [(0, 12, 3, 2)]
  | 163 => [(0, 12, 3, 2)]
  | 164 => [(0, 12, 3, 2)]
  | 165 => [(0, 12, 3, 2)]
  | 166 => [(0, 12, 3, 2), (2, 15, 3, 3)]
  | _ => []
def ent (y : Nat) (args : List AV) : List AV := args ++ List.replicate (mLo y - args.length) av0
def rcOk (y : Nat) (args : List AV) : Prop := match mRc y with
  | none => True
  | some ci => match args with
    | .inr (.inr (k, _, _)) :: _ => match kSh k with
      | some (.inl (c, _)) => c = ci
      | _ => False
    | _ => False
abbrev GoT : Type := Nat → Nat → Nat → List AV → List AV → XT → OUT → XT → Nat → Prop
/-- the stretches that the law's switch goes to: the last one is its default -/
def tsw : List Nat := [2, 11, 20, 29, 38, 47, 56, 62, 66, 70, 79, 88, 97, 106, 115, 124, 133, 142, 151, 160, 169, 181, 190, 199, 208, 217, 226]
def Cl (rec : GoT) (d y z nx : Nat) (L S : List AV) (X : XT) (o : OUT) (Z : XT) (k : Nat) : Prop :=
  ∃ (d' : Nat) (o1 : OUT) (X1 : XT) (k1 : Nat), d = d' + 1 ∧ mNa z ≤ S.length ∧ ((S.drop (mNa z)).map avc).sum ≤ 8 ∧ (S.take (mNa z)).all (fun v => decide (avc v = 1)) = true ∧ rcOk z (S.take (mNa z)).reverse ∧ rec d' z 0 (ent z (S.take (mNa z)).reverse) [] X o1 X1 k1 ∧ match o1 with
    | .inl none => ∃ k2, rec d y nx L (S.drop (mNa z)) X1 o Z k2 ∧ k = k1 + k2
    | .inl (some v) => ∃ k2, rec d y nx L (v :: S.drop (mNa z)) X1 o Z k2 ∧ k = k1 + k2
    | .inr e => (mHn y = [] ∧ o = .inr e ∧ Z = X1 ∧ k = k1) ∨ ∃ h ∈ mHn y, h.1 = e ∧ ∃ k2, rec d y h.2.2.2 (L.set h.2.2.1 av0) [] X1 o Z k2 ∧ k = k1 + k2
def Tm (rec : GoT) (d y : Nat) (t : Instr × Nat × Nat × Nat) (L S : List AV) (X : XT) (o : OUT) (Z : XT) (k : Nat) : Prop := match t.1 with
  | .nop => rec d y t.2.2.1 L S X o Z k
  | .goto _ => rec d y t.2.2.1 L S X o Z k
  | .ifCond c _ => match S with
    | .inl x :: S => (cz c x → rec d y t.2.2.1 L S X o Z k) ∧ (¬ cz c x → rec d y t.2.2.2 L S X o Z k)
    | _ => False
  | .if_icmp c _ => match S with
    | .inl w :: .inl x :: S => (ci2 c x w → rec d y t.2.2.1 L S X o Z k) ∧ (¬ ci2 c x w → rec d y t.2.2.2 L S X o Z k)
    | _ => False
  | .ireturn => match S with
    | [.inl v] => (t.2.2.1 = 0 ∨ v = 0 ∨ v = 1) ∧ o = .inl (some (.inl v)) ∧ Z = X ∧ k = 0
    | _ => False
  | .areturn => match S with
    | [.inr (.inr r)] => o = .inl (some (.inr (.inr r))) ∧ Z = X ∧ k = 0
    | _ => False
  | .return_ => S = [] ∧ o = .inl none ∧ Z = X ∧ k = 0
  | .new _ => S = [] ∧ o = .inr t.2.2.1 ∧ Z = X ∧ k = 1
  | .tableswitch _ _ _ _ => match S with
    | .inl x :: S => 0 ≤ x ∧ rec d y (tsw.getD x.toNatClampNeg (tsw.getD 26 0)) L S X o Z k
    | _ => False
  | .invokevirtual _ => Cl rec d y t.2.2.1 t.2.2.2 L S X o Z k
  | .invokestatic _ => Cl rec d y t.2.2.1 t.2.2.2 L S X o Z k
  | _ => False
def cd_X0_open : List SG := [(0, [(.aload_n 0, 1, 0, 0, 0), (.iload_n 1, 1, 1, 0, 0), (.putfield 26, 3, 4, 0, 4), (.aload_n 0, 1, 0, 0, 0), (.iload_n 2, 1, 2, 0, 0), (.putfield 30, 3, 5, 0, 5), (.iconst 0, 1, 0, 0, 0), (.istore_n 3, 1, 3, 0, 0)], .nop, 0, 1, 0),
  (12, [(.iload_n 3, 1, 3, 0, 0), (.iload_n 2, 1, 2, 0, 0)], .if_icmp .ge 43, 3, 6, 2),
  (17, [(.aload_n 0, 1, 0, 0, 0), (.getfield 23, 3, 3, 0, 3), (.iload_n 3, 1, 3, 0, 0), (.iload_n 1, 1, 1, 0, 0), (.iload_n 3, 1, 3, 0, 0), (.iadd, 1, 0, 0, 0), (.iastore, 1, 0, 0, 0), (.iconst 0, 1, 0, 0, 0), (.istore 4, 2, 4, 0, 0)], .nop, 0, 3, 0),
  (29, [(.iload 4, 2, 4, 0, 0), (.iload_n 2, 1, 2, 0, 0)], .if_icmp .ge 19, 3, 5, 4),
  (35, [(.aload_n 0, 1, 0, 0, 0), (.getfield 11, 3, 0, 0, 0), (.iload_n 3, 1, 3, 0, 0), (.aaload, 1, 0, 0, 0), (.iload 4, 2, 4, 0, 0), (.iconst (-1), 1, 0, 0, (-1)), (.iastore, 1, 0, 0, 0), (.iinc 4 1, 3, 4, 0, 1)], .goto (-19), 3, 3, 0),
  (51, [(.iinc 3 1, 3, 3, 0, 1)], .goto (-42), 3, 1, 0),
  (57, [], .return_, 1, 0, 0)]
def cd_X0_size : List SG := [(0, [(.aload_n 0, 1, 0, 0, 0), (.getfield 30, 3, 5, 0, 5)], .ireturn, 1, 0, 0)]
def cd_X0_hasTeam : List SG := [(0, [(.iload_n 1, 1, 1, 0, 0), (.aload_n 0, 1, 0, 0, 0), (.getfield 26, 3, 4, 0, 4)], .if_icmp .lt 20, 3, 3, 1),
  (8, [(.iload_n 1, 1, 1, 0, 0), (.aload_n 0, 1, 0, 0, 0), (.getfield 26, 3, 4, 0, 4), (.aload_n 0, 1, 0, 0, 0), (.getfield 30, 3, 5, 0, 5), (.iadd, 1, 0, 0, 0)], .if_icmp .ge 7, 3, 3, 2),
  (21, [(.iconst 1, 1, 0, 0, 1)], .goto 4, 3, 4, 0),
  (25, [(.iconst 0, 1, 0, 0, 0)], .nop, 0, 4, 0),
  (26, [], .ireturn, 1, 1, 0)]
def cd_X0_seatOf : List SG := [(0, [(.iload_n 1, 1, 1, 0, 0), (.aload_n 0, 1, 0, 0, 0), (.getfield 26, 3, 4, 0, 4), (.isub, 1, 0, 0, 0)], .ireturn, 1, 0, 0)]
def cd_X0_teamOn : List SG := [(0, [(.aload_n 0, 1, 0, 0, 0), (.getfield 26, 3, 4, 0, 4), (.iload_n 1, 1, 1, 0, 0), (.iadd, 1, 0, 0, 0)], .ireturn, 1, 0, 0)]
def cd_X0_everyone : List SG := [(0, [(.iconst 1, 1, 0, 0, 1), (.aload_n 0, 1, 0, 0, 0), (.getfield 30, 3, 5, 0, 5), (.ishl, 1, 0, 0, 0), (.iconst 1, 1, 0, 0, 1), (.isub, 1, 0, 0, 0)], .ireturn, 1, 0, 0)]
def cd_X0_tell : List SG := [(0, [(.aload_n 0, 1, 0, 0, 0), (.getfield 11, 3, 0, 0, 0), (.iload_n 1, 1, 1, 0, 0), (.aaload, 1, 0, 0, 0), (.iload_n 2, 1, 2, 0, 0), (.iload_n 3, 1, 3, 0, 0), (.iastore, 1, 0, 0, 0), (.aload_n 0, 1, 0, 0, 0), (.getfield 11, 3, 0, 0, 0), (.iload_n 2, 1, 2, 0, 0), (.aaload, 1, 0, 0, 0), (.iload_n 1, 1, 1, 0, 0), (.iload 4, 2, 4, 0, 0), (.iastore, 1, 0, 0, 0)], .return_, 1, 0, 0)]
def cd_X0_untell : List SG := [(0, [(.aload_n 0, 1, 0, 0, 0), (.iload_n 1, 1, 1, 0, 0), (.iload_n 2, 1, 2, 0, 0), (.iconst (-1), 1, 0, 0, (-1)), (.iconst (-1), 1, 0, 0, (-1))], .invokevirtual 33, 3, 6, 1),
  (8, [], .return_, 1, 0, 0)]
def cd_X0_hasResult : List SG := [(0, [(.aload_n 0, 1, 0, 0, 0), (.getfield 11, 3, 0, 0, 0), (.iload_n 1, 1, 1, 0, 0), (.aaload, 1, 0, 0, 0), (.iload_n 2, 1, 2, 0, 0), (.iaload, 1, 0, 0, 0), (.iconst (-1), 1, 0, 0, (-1))], .if_icmp .eq 7, 3, 2, 1),
  (12, [(.iconst 1, 1, 0, 0, 1)], .goto 4, 3, 3, 0),
  (16, [(.iconst 0, 1, 0, 0, 0)], .nop, 0, 3, 0),
  (17, [], .ireturn, 1, 1, 0)]
def cd_X0_putTaken : List SG := [(0, [(.aload_n 0, 1, 0, 0, 0), (.getfield 16, 3, 1, 0, 1), (.iload_n 1, 1, 1, 0, 0), (.iaload, 1, 0, 0, 0), (.istore_n 3, 1, 3, 0, 0), (.aload_n 0, 1, 0, 0, 0), (.getfield 16, 3, 1, 0, 1), (.iload_n 1, 1, 1, 0, 0), (.iload_n 2, 1, 2, 0, 0), (.iastore, 1, 0, 0, 0), (.iload_n 3, 1, 3, 0, 0)], .ireturn, 1, 0, 0)]
def cd_X0_putCards : List SG := [(0, [(.aload_n 0, 1, 0, 0, 0), (.getfield 20, 3, 2, 0, 2), (.iload_n 1, 1, 1, 0, 0), (.iaload, 1, 0, 0, 0), (.istore_n 3, 1, 3, 0, 0), (.aload_n 0, 1, 0, 0, 0), (.getfield 20, 3, 2, 0, 2), (.iload_n 1, 1, 1, 0, 0), (.iload_n 2, 1, 2, 0, 0), (.iastore, 1, 0, 0, 0), (.iload_n 3, 1, 3, 0, 0)], .ireturn, 1, 0, 0)]
def cd_X0_putLot : List SG := [(0, [(.aload_n 0, 1, 0, 0, 0), (.getfield 23, 3, 3, 0, 3), (.iload_n 1, 1, 1, 0, 0), (.iaload, 1, 0, 0, 0), (.istore_n 3, 1, 3, 0, 0), (.aload_n 0, 1, 0, 0, 0), (.getfield 23, 3, 3, 0, 3), (.iload_n 1, 1, 1, 0, 0), (.iload_n 2, 1, 2, 0, 0), (.iastore, 1, 0, 0, 0), (.iload_n 3, 1, 3, 0, 0)], .ireturn, 1, 0, 0)]
def cd_X0_playedBy : List SG := [(0, [(.iconst 0, 1, 0, 0, 0), (.istore_n 2, 1, 2, 0, 0), (.iconst 0, 1, 0, 0, 0), (.istore_n 3, 1, 3, 0, 0)], .nop, 0, 1, 0),
  (4, [(.iload_n 3, 1, 3, 0, 0), (.aload_n 0, 1, 0, 0, 0), (.getfield 30, 3, 5, 0, 5)], .if_icmp .ge 21, 3, 6, 2),
  (12, [(.aload_n 0, 1, 0, 0, 0), (.iload_n 1, 1, 1, 0, 0), (.iload_n 3, 1, 3, 0, 0)], .invokevirtual 37, 3, 8, 3),
  (18, [], .ifCond .eq 6, 3, 5, 4),
  (21, [(.iinc 2 1, 3, 2, 0, 1)], .nop, 0, 5, 0),
  (24, [(.iinc 3 1, 3, 3, 0, 1)], .goto (-23), 3, 1, 0),
  (30, [(.iload_n 2, 1, 2, 0, 0)], .ireturn, 1, 0, 0)]
def cd_X0_left : List SG := [(0, [(.iconst 0, 1, 0, 0, 0), (.istore_n 1, 1, 1, 0, 0), (.iconst 0, 1, 0, 0, 0), (.istore_n 2, 1, 2, 0, 0)], .nop, 0, 1, 0),
  (4, [(.iload_n 2, 1, 2, 0, 0), (.aload_n 0, 1, 0, 0, 0), (.getfield 30, 3, 5, 0, 5)], .if_icmp .ge 39, 3, 9, 2),
  (12, [(.iload_n 2, 1, 2, 0, 0), (.iconst 1, 1, 0, 0, 1), (.iadd, 1, 0, 0, 0), (.istore_n 3, 1, 3, 0, 0)], .nop, 0, 3, 0),
  (16, [(.iload_n 3, 1, 3, 0, 0), (.aload_n 0, 1, 0, 0, 0), (.getfield 30, 3, 5, 0, 5)], .if_icmp .ge 21, 3, 8, 4),
  (24, [(.aload_n 0, 1, 0, 0, 0), (.iload_n 2, 1, 2, 0, 0), (.iload_n 3, 1, 3, 0, 0)], .invokevirtual 37, 3, 8, 5),
  (30, [], .ifCond .ne 6, 3, 7, 6),
  (33, [(.iinc 1 1, 3, 1, 0, 1)], .nop, 0, 7, 0),
  (36, [(.iinc 3 1, 3, 3, 0, 1)], .goto (-23), 3, 3, 0),
  (42, [(.iinc 2 1, 3, 2, 0, 1)], .goto (-41), 3, 1, 0),
  (48, [(.iload_n 1, 1, 1, 0, 0)], .ireturn, 1, 0, 0)]
def cd_X0_pointsOf : List SG := [(0, [(.aload_n 0, 1, 0, 0, 0), (.iload_n 1, 1, 1, 0, 0), (.aload_n 0, 1, 0, 0, 0)], .invokevirtual 41, 3, 5, 1),
  (6, [], .invokevirtual 45, 3, 16, 2),
  (9, [(.aload_n 0, 1, 0, 0, 0), (.getfield 16, 3, 1, 0, 1), (.iload_n 1, 1, 1, 0, 0), (.iaload, 1, 0, 0, 0), (.isub, 1, 0, 0, 0)], .ireturn, 1, 0, 0)]
def cd_X0_takenFrom : List SG := [(0, [(.aload_n 0, 1, 0, 0, 0), (.getfield 16, 3, 1, 0, 1), (.iload_n 1, 1, 1, 0, 0), (.iaload, 1, 0, 0, 0)], .ireturn, 1, 0, 0)]
def cd_X0_pointsFrom : List SG := [(0, [(.iconst 0, 1, 0, 0, 0), (.istore_n 3, 1, 3, 0, 0), (.iconst 0, 1, 0, 0, 0), (.istore 4, 2, 4, 0, 0)], .nop, 0, 1, 0),
  (5, [(.iload 4, 2, 4, 0, 0), (.aload_n 0, 1, 0, 0, 0), (.getfield 30, 3, 5, 0, 5)], .if_icmp .ge 44, 3, 7, 2),
  (14, [(.aload_n 0, 1, 0, 0, 0), (.iload_n 1, 1, 1, 0, 0), (.iload 4, 2, 4, 0, 0), (.iload_n 2, 1, 2, 0, 0)], .invokevirtual 49, 3, 21, 3),
  (22, [], .ifCond .eq 27, 3, 6, 4),
  (25, [(.iload_n 3, 1, 3, 0, 0), (.aload_n 0, 1, 0, 0, 0), (.getfield 11, 3, 0, 0, 0), (.iload_n 1, 1, 1, 0, 0), (.aaload, 1, 0, 0, 0), (.iload 4, 2, 4, 0, 0), (.iaload, 1, 0, 0, 0), (.aload_n 0, 1, 0, 0, 0), (.getfield 11, 3, 0, 0, 0), (.iload 4, 2, 4, 0, 0), (.aaload, 1, 0, 0, 0), (.iload_n 1, 1, 1, 0, 0), (.iaload, 1, 0, 0, 0)], .invokestatic 53, 3, 22, 5),
  (47, [(.iadd, 1, 0, 0, 0), (.istore_n 3, 1, 3, 0, 0)], .nop, 0, 6, 0),
  (49, [(.iinc 4 1, 3, 4, 0, 1)], .goto (-47), 3, 1, 0),
  (55, [(.iload_n 3, 1, 3, 0, 0)], .ireturn, 1, 0, 0)]
def cd_X0_differenceFrom : List SG := [(0, [(.iconst 0, 1, 0, 0, 0), (.istore_n 3, 1, 3, 0, 0), (.iconst 0, 1, 0, 0, 0), (.istore 4, 2, 4, 0, 0)], .nop, 0, 1, 0),
  (5, [(.iload 4, 2, 4, 0, 0), (.aload_n 0, 1, 0, 0, 0), (.getfield 30, 3, 5, 0, 5)], .if_icmp .ge 42, 3, 6, 2),
  (14, [(.aload_n 0, 1, 0, 0, 0), (.iload_n 1, 1, 1, 0, 0), (.iload 4, 2, 4, 0, 0), (.iload_n 2, 1, 2, 0, 0)], .invokevirtual 49, 3, 21, 3),
  (22, [], .ifCond .eq 25, 3, 5, 4),
  (25, [(.iload_n 3, 1, 3, 0, 0), (.aload_n 0, 1, 0, 0, 0), (.getfield 11, 3, 0, 0, 0), (.iload_n 1, 1, 1, 0, 0), (.aaload, 1, 0, 0, 0), (.iload 4, 2, 4, 0, 0), (.iaload, 1, 0, 0, 0), (.aload_n 0, 1, 0, 0, 0), (.getfield 11, 3, 0, 0, 0), (.iload 4, 2, 4, 0, 0), (.aaload, 1, 0, 0, 0), (.iload_n 1, 1, 1, 0, 0), (.iaload, 1, 0, 0, 0), (.isub, 1, 0, 0, 0), (.iadd, 1, 0, 0, 0), (.istore_n 3, 1, 3, 0, 0)], .nop, 0, 5, 0),
  (47, [(.iinc 4 1, 3, 4, 0, 1)], .goto (-45), 3, 1, 0),
  (53, [(.iload_n 3, 1, 3, 0, 0)], .ireturn, 1, 0, 0)]
def cd_X0_goalsFrom : List SG := [(0, [(.iconst 0, 1, 0, 0, 0), (.istore_n 3, 1, 3, 0, 0), (.iconst 0, 1, 0, 0, 0), (.istore 4, 2, 4, 0, 0)], .nop, 0, 1, 0),
  (5, [(.iload 4, 2, 4, 0, 0), (.aload_n 0, 1, 0, 0, 0), (.getfield 30, 3, 5, 0, 5)], .if_icmp .ge 32, 3, 6, 2),
  (14, [(.aload_n 0, 1, 0, 0, 0), (.iload_n 1, 1, 1, 0, 0), (.iload 4, 2, 4, 0, 0), (.iload_n 2, 1, 2, 0, 0)], .invokevirtual 49, 3, 21, 3),
  (22, [], .ifCond .eq 15, 3, 5, 4),
  (25, [(.iload_n 3, 1, 3, 0, 0), (.aload_n 0, 1, 0, 0, 0), (.getfield 11, 3, 0, 0, 0), (.iload_n 1, 1, 1, 0, 0), (.aaload, 1, 0, 0, 0), (.iload 4, 2, 4, 0, 0), (.iaload, 1, 0, 0, 0), (.iadd, 1, 0, 0, 0), (.istore_n 3, 1, 3, 0, 0)], .nop, 0, 5, 0),
  (37, [(.iinc 4 1, 3, 4, 0, 1)], .goto (-35), 3, 1, 0),
  (43, [(.iload_n 3, 1, 3, 0, 0)], .ireturn, 1, 0, 0)]
def cd_X0_cardMark : List SG := [(0, [(.aload_n 0, 1, 0, 0, 0), (.getfield 20, 3, 2, 0, 2), (.iload_n 1, 1, 1, 0, 0), (.iaload, 1, 0, 0, 0), (.ineg, 1, 0, 0, 0)], .ireturn, 1, 0, 0)]
def cd_X0_lotMark : List SG := [(0, [(.aload_n 0, 1, 0, 0, 0), (.getfield 23, 3, 3, 0, 3), (.iload_n 1, 1, 1, 0, 0), (.iaload, 1, 0, 0, 0), (.bipush 6, 2, 0, 0, 6), (.imul, 1, 0, 0, 0), (.iconst 5, 1, 0, 0, 5), (.imul, 1, 0, 0, 0), (.aload_n 0, 1, 0, 0, 0), (.getfield 26, 3, 4, 0, 4), (.iadd, 1, 0, 0, 0), (.iload_n 1, 1, 1, 0, 0), (.iadd, 1, 0, 0, 0), (.ineg, 1, 0, 0, 0)], .ireturn, 1, 0, 0)]
def cd_X0_counts : List SG := [(0, [(.iload_n 3, 1, 3, 0, 0), (.iload_n 2, 1, 2, 0, 0), (.ishr, 1, 0, 0, 0), (.iconst 1, 1, 0, 0, 1), (.iand, 1, 0, 0, 0)], .ifCond .eq 19, 3, 3, 1),
  (8, [(.aload_n 0, 1, 0, 0, 0), (.getfield 11, 3, 0, 0, 0), (.iload_n 1, 1, 1, 0, 0), (.aaload, 1, 0, 0, 0), (.iload_n 2, 1, 2, 0, 0), (.iaload, 1, 0, 0, 0), (.iconst (-1), 1, 0, 0, (-1))], .if_icmp .eq 7, 3, 3, 2),
  (20, [(.iconst 1, 1, 0, 0, 1)], .goto 4, 3, 4, 0),
  (24, [(.iconst 0, 1, 0, 0, 0)], .nop, 0, 4, 0),
  (25, [], .ireturn, 1, 1, 0)]
def cd_X0_pointsFor : List SG := [(0, [(.iload_n 0, 1, 0, 0, 0), (.iload_n 1, 1, 1, 0, 0)], .if_icmp .ne 5, 3, 2, 1),
  (5, [(.iconst 1, 1, 0, 0, 1)], .ireturn, 1, 0, 0),
  (7, [(.iload_n 0, 1, 0, 0, 0), (.iload_n 1, 1, 1, 0, 0)], .if_icmp .le 7, 3, 4, 3),
  (12, [(.iconst 3, 1, 0, 0, 3)], .goto 4, 3, 5, 0),
  (16, [(.iconst 0, 1, 0, 0, 0)], .nop, 0, 5, 0),
  (17, [], .ireturn, 1, 0, 0)]
def cd_X1_list : List SG := [(0, [(.aload_n 0, 1, 0, 0, 0), (.aload_n 1, 1, 1, 0, 0), (.iconst (-1), 1, 0, 0, (-1))], .invokevirtual 18, 3, 24, 1),
  (6, [], .ireturn, 1, 0, 0)]
def cd_X1_listOwnLast : List SG := [(0, [(.aload_n 0, 1, 0, 0, 0), (.aload_n 1, 1, 1, 0, 0), (.iload_n 2, 1, 2, 0, 0), (.iconst 0, 1, 0, 0, 0), (.iconst 0, 1, 0, 0, 0)], .invokevirtual 22, 3, 25, 1),
  (8, [(.istore_n 3, 1, 3, 0, 0), (.aload_n 0, 1, 0, 0, 0), (.aload_n 1, 1, 1, 0, 0), (.iload_n 2, 1, 2, 0, 0), (.iconst 1, 1, 0, 0, 1), (.iload_n 3, 1, 3, 0, 0)], .invokevirtual 22, 3, 25, 2),
  (17, [], .ireturn, 1, 0, 0)]
def cd_X1_add : List SG := [(0, [(.iload 4, 2, 4, 0, 0), (.istore 5, 2, 5, 0, 0), (.aload_n 1, 1, 1, 0, 0)], .invokevirtual 26, 3, 1, 1),
  (8, [(.istore 6, 2, 6, 0, 0), (.iconst 0, 1, 0, 0, 0), (.istore 7, 2, 7, 0, 0)], .nop, 0, 2, 0),
  (13, [(.iload 7, 2, 7, 0, 0), (.iload 6, 2, 6, 0, 0)], .if_icmp .ge 92, 3, 16, 3),
  (20, [(.iload 7, 2, 7, 0, 0), (.iconst 1, 1, 0, 0, 1), (.iadd, 1, 0, 0, 0), (.istore 8, 2, 8, 0, 0)], .nop, 0, 4, 0),
  (26, [(.iload 8, 2, 8, 0, 0), (.iload 6, 2, 6, 0, 0)], .if_icmp .ge 73, 3, 15, 5),
  (33, [(.iload 7, 2, 7, 0, 0), (.iload_n 2, 1, 2, 0, 0)], .if_icmp .eq 9, 3, 7, 6),
  (39, [(.iload 8, 2, 8, 0, 0), (.iload_n 2, 1, 2, 0, 0)], .if_icmp .ne 7, 3, 8, 7),
  (45, [(.iconst 1, 1, 0, 0, 1)], .goto 4, 3, 9, 0),
  (49, [(.iconst 0, 1, 0, 0, 0)], .nop, 0, 9, 0),
  (50, [(.istore 9, 2, 9, 0, 0), (.iload 9, 2, 9, 0, 0), (.iload_n 3, 1, 3, 0, 0)], .if_icmp .ne 42, 3, 14, 10),
  (58, [(.iload 5, 2, 5, 0, 0), (.bipush 10, 2, 0, 0, 10)], .if_icmp .ge 35, 3, 14, 11),
  (65, [(.aload_n 1, 1, 1, 0, 0), (.iload 7, 2, 7, 0, 0), (.iload 8, 2, 8, 0, 0)], .invokevirtual 32, 3, 8, 12),
  (73, [], .ifCond .ne 24, 3, 14, 13),
  (76, [(.aload_n 0, 1, 0, 0, 0), (.getfield 9, 3, 0, 1, 0), (.iload 5, 2, 5, 0, 0), (.iload 7, 2, 7, 0, 0), (.iastore, 1, 0, 0, 0), (.aload_n 0, 1, 0, 0, 0), (.getfield 15, 3, 1, 1, 1), (.iload 5, 2, 5, 0, 0), (.iload 8, 2, 8, 0, 0), (.iastore, 1, 0, 0, 0), (.iinc 5 1, 3, 5, 0, 1)], .nop, 0, 14, 0),
  (97, [(.iinc 8 1, 3, 8, 0, 1)], .goto (-74), 3, 4, 0),
  (103, [(.iinc 7 1, 3, 7, 0, 1)], .goto (-93), 3, 2, 0),
  (109, [(.iload 5, 2, 5, 0, 0)], .ireturn, 1, 0, 0)]
def cd_X1_lowerOf : List SG := [(0, [(.aload_n 0, 1, 0, 0, 0), (.getfield 9, 3, 0, 1, 0), (.iload_n 1, 1, 1, 0, 0), (.iaload, 1, 0, 0, 0)], .ireturn, 1, 0, 0)]
def cd_X1_upperOf : List SG := [(0, [(.aload_n 0, 1, 0, 0, 0), (.getfield 15, 3, 1, 1, 1), (.iload_n 1, 1, 1, 0, 0), (.iaload, 1, 0, 0, 0)], .ireturn, 1, 0, 0)]
def cd_X2_put : List SG := [(0, [(.aload_n 0, 1, 0, 0, 0), (.getfield 9, 3, 0, 2, 0), (.iload_n 1, 1, 1, 0, 0), (.aaload, 1, 0, 0, 0), (.iload_n 2, 1, 2, 0, 0), (.iload_n 3, 1, 3, 0, 0), (.iastore, 1, 0, 0, 0)], .return_, 1, 0, 0)]
def cd_X2_at : List SG := [(0, [(.aload_n 0, 1, 0, 0, 0), (.getfield 9, 3, 0, 2, 0), (.iload_n 1, 1, 1, 0, 0), (.aaload, 1, 0, 0, 0), (.iload_n 2, 1, 2, 0, 0), (.iaload, 1, 0, 0, 0)], .ireturn, 1, 0, 0)]
def cd_X2_firstApart : List SG := [(0, [(.iconst 0, 1, 0, 0, 0), (.istore 4, 2, 4, 0, 0)], .nop, 0, 1, 0),
  (3, [(.iload 4, 2, 4, 0, 0), (.iload_n 3, 1, 3, 0, 0)], .if_icmp .ge 30, 3, 4, 2),
  (9, [(.aload_n 0, 1, 0, 0, 0), (.getfield 9, 3, 0, 2, 0), (.iload_n 1, 1, 1, 0, 0), (.aaload, 1, 0, 0, 0), (.iload 4, 2, 4, 0, 0), (.iaload, 1, 0, 0, 0), (.aload_n 0, 1, 0, 0, 0), (.getfield 9, 3, 0, 2, 0), (.iload_n 2, 1, 2, 0, 0), (.aaload, 1, 0, 0, 0), (.iload 4, 2, 4, 0, 0), (.iaload, 1, 0, 0, 0)], .if_icmp .ne 9, 3, 4, 3),
  (30, [(.iinc 4 1, 3, 4, 0, 1)], .goto (-30), 3, 1, 0),
  (36, [(.iload 4, 2, 4, 0, 0)], .ireturn, 1, 0, 0)]
def cd_X2_isBetter : List SG := [(0, [(.aload_n 0, 1, 0, 0, 0), (.iload_n 1, 1, 1, 0, 0), (.iload_n 2, 1, 2, 0, 0), (.iload_n 3, 1, 3, 0, 0)], .invokevirtual 14, 3, 30, 1),
  (7, [(.istore 4, 2, 4, 0, 0), (.iload 4, 2, 4, 0, 0), (.iload_n 3, 1, 3, 0, 0)], .if_icmp .ge 28, 3, 4, 2),
  (15, [(.aload_n 0, 1, 0, 0, 0), (.getfield 9, 3, 0, 2, 0), (.iload_n 1, 1, 1, 0, 0), (.aaload, 1, 0, 0, 0), (.iload 4, 2, 4, 0, 0), (.iaload, 1, 0, 0, 0), (.aload_n 0, 1, 0, 0, 0), (.getfield 9, 3, 0, 2, 0), (.iload_n 2, 1, 2, 0, 0), (.aaload, 1, 0, 0, 0), (.iload 4, 2, 4, 0, 0), (.iaload, 1, 0, 0, 0)], .if_icmp .le 7, 3, 4, 3),
  (36, [(.iconst 1, 1, 0, 0, 1)], .goto 4, 3, 5, 0),
  (40, [(.iconst 0, 1, 0, 0, 0)], .nop, 0, 5, 0),
  (41, [], .ireturn, 1, 1, 0)]
def cd_X3_countPassed : List SG := [(0, [(.aload_n 0, 1, 0, 0, 0), (.aload_n 1, 1, 1, 0, 0), (.iload_n 2, 1, 2, 0, 0), (.iload_n 3, 1, 3, 0, 0), (.iload 4, 2, 4, 0, 0)], .invokevirtual 25, 3, 34, 1),
  (9, [(.aload_n 0, 1, 0, 0, 0), (.aload_n 0, 1, 0, 0, 0), (.getfield 12, 3, 0, 3, 0), (.aload_n 1, 1, 1, 0, 0), (.iload_n 2, 1, 2, 0, 0)], .invokevirtual 29, 3, 24, 2),
  (19, [], .invokevirtual 33, 3, 35, 3),
  (22, [], .ireturn, 1, 0, 0)]
def cd_X3_firstPassed : List SG := [(0, [(.aload_n 0, 1, 0, 0, 0), (.aload_n 1, 1, 1, 0, 0), (.iload_n 2, 1, 2, 0, 0), (.iload_n 3, 1, 3, 0, 0), (.iload 4, 2, 4, 0, 0)], .invokevirtual 25, 3, 34, 1),
  (9, [(.aload_n 0, 1, 0, 0, 0), (.aload_n 0, 1, 0, 0, 0), (.getfield 12, 3, 0, 3, 0), (.aload_n 1, 1, 1, 0, 0)], .invokevirtual 37, 3, 23, 2),
  (18, [], .invokevirtual 41, 3, 36, 3),
  (21, [], .ireturn, 1, 0, 0)]
def cd_X3_open : List SG := [(0, [(.aload_n 0, 1, 0, 0, 0), (.aload_n 1, 1, 1, 0, 0)], .invokevirtual 44, 3, 1, 1),
  (5, [(.putfield 50, 3, 3, 3, 3), (.aload_n 0, 1, 0, 0, 0), (.iload_n 2, 1, 2, 0, 0), (.putfield 53, 3, 4, 3, 4), (.aload_n 0, 1, 0, 0, 0), (.iload_n 3, 1, 3, 0, 0), (.putfield 56, 3, 5, 3, 5), (.aload_n 0, 1, 0, 0, 0), (.iload 4, 2, 4, 0, 0), (.putfield 59, 3, 6, 3, 6), (.iconst 0, 1, 0, 0, 0), (.istore 5, 2, 5, 0, 0)], .nop, 0, 2, 0),
  (27, [(.iload 5, 2, 5, 0, 0), (.aload_n 0, 1, 0, 0, 0), (.getfield 50, 3, 3, 3, 3)], .if_icmp .ge 42, 3, 6, 3),
  (36, [(.aload_n 0, 1, 0, 0, 0), (.getfield 18, 3, 1, 3, 1), (.iload 5, 2, 5, 0, 0), (.aload_n 1, 1, 1, 0, 0), (.iload 5, 2, 5, 0, 0)], .invokevirtual 62, 3, 14, 4),
  (48, [(.iastore, 1, 0, 0, 0), (.aload_n 0, 1, 0, 0, 0), (.getfield 22, 3, 2, 3, 2), (.iload 5, 2, 5, 0, 0), (.aload_n 0, 1, 0, 0, 0), (.getfield 50, 3, 3, 3, 3), (.iconst 1, 1, 0, 0, 1), (.isub, 1, 0, 0, 0), (.aload_n 1, 1, 1, 0, 0), (.iload 5, 2, 5, 0, 0)], .invokevirtual 65, 3, 12, 5),
  (67, [(.isub, 1, 0, 0, 0), (.iastore, 1, 0, 0, 0), (.iinc 5 1, 3, 5, 0, 1)], .goto (-45), 3, 2, 0),
  (75, [], .return_, 1, 0, 0)]
def cd_X3_waysPassed : List SG := [(0, [(.aload_n 0, 1, 0, 0, 0)], .invokevirtual 68, 3, 39, 1),
  (4, [], .ifCond .eq 8, 3, 4, 2),
  (7, [(.iload_n 1, 1, 1, 0, 0)], .invokestatic 72, 3, 167, 3),
  (11, [], .ireturn, 1, 0, 0),
  (12, [(.iload_n 1, 1, 1, 0, 0)], .ifCond .le 10, 3, 7, 5),
  (16, [(.aload_n 0, 1, 0, 0, 0)], .invokevirtual 75, 3, 40, 6),
  (20, [], .ifCond .ne 5, 3, 8, 7),
  (23, [(.iconst 0, 1, 0, 0, 0)], .ireturn, 1, 0, 0),
  (25, [(.iconst 0, 1, 0, 0, 0), (.istore_n 2, 1, 2, 0, 0), (.iconst 0, 1, 0, 0, 0), (.istore_n 3, 1, 3, 0, 0)], .nop, 0, 9, 0),
  (29, [(.iload_n 3, 1, 3, 0, 0), (.iconst 3, 1, 0, 0, 3)], .if_icmp .ge 35, 3, 14, 10),
  (34, [(.aload_n 0, 1, 0, 0, 0), (.iload_n 1, 1, 1, 0, 0), (.iconst 1, 1, 0, 0, 1), (.isub, 1, 0, 0, 0), (.iload_n 3, 1, 3, 0, 0)], .invokevirtual 78, 3, 37, 11),
  (42, [(.iload_n 2, 1, 2, 0, 0), (.aload_n 0, 1, 0, 0, 0), (.iload_n 1, 1, 1, 0, 0), (.iconst 1, 1, 0, 0, 1), (.isub, 1, 0, 0, 0)], .invokevirtual 33, 3, 35, 12),
  (50, [(.iadd, 1, 0, 0, 0), (.istore_n 2, 1, 2, 0, 0), (.aload_n 0, 1, 0, 0, 0), (.iload_n 1, 1, 1, 0, 0), (.iconst 1, 1, 0, 0, 1), (.isub, 1, 0, 0, 0), (.iload_n 3, 1, 3, 0, 0)], .invokevirtual 82, 3, 38, 13),
  (60, [(.iinc 3 1, 3, 3, 0, 1)], .goto (-34), 3, 9, 0),
  (66, [(.iload_n 2, 1, 2, 0, 0)], .ireturn, 1, 0, 0)]
def cd_X3_lowestPassed : List SG := [(0, [(.aload_n 0, 1, 0, 0, 0)], .invokevirtual 68, 3, 39, 1),
  (4, [], .ifCond .eq 5, 3, 3, 2),
  (7, [(.iconst 0, 1, 0, 0, 0)], .ireturn, 1, 0, 0),
  (9, [(.iload_n 1, 1, 1, 0, 0)], .ifCond .le 10, 3, 6, 4),
  (13, [(.aload_n 0, 1, 0, 0, 0)], .invokevirtual 75, 3, 40, 5),
  (17, [], .ifCond .ne 5, 3, 7, 6),
  (20, [(.iconst (-1), 1, 0, 0, (-1))], .ireturn, 1, 0, 0),
  (22, [(.iconst (-1), 1, 0, 0, (-1)), (.istore_n 2, 1, 2, 0, 0), (.iconst 0, 1, 0, 0, 0), (.istore_n 3, 1, 3, 0, 0)], .nop, 0, 8, 0),
  (26, [(.iload_n 3, 1, 3, 0, 0), (.iconst 3, 1, 0, 0, 3)], .if_icmp .ge 57, 3, 17, 9),
  (31, [(.iload_n 2, 1, 2, 0, 0), (.iconst (-1), 1, 0, 0, (-1))], .if_icmp .ne 52, 3, 17, 10),
  (36, [(.aload_n 0, 1, 0, 0, 0), (.iload_n 1, 1, 1, 0, 0), (.iconst 1, 1, 0, 0, 1), (.isub, 1, 0, 0, 0), (.iload_n 3, 1, 3, 0, 0)], .invokevirtual 78, 3, 37, 11),
  (44, [(.aload_n 0, 1, 0, 0, 0), (.iload_n 1, 1, 1, 0, 0), (.iconst 1, 1, 0, 0, 1), (.isub, 1, 0, 0, 0)], .invokevirtual 41, 3, 36, 12),
  (51, [(.istore 4, 2, 4, 0, 0), (.aload_n 0, 1, 0, 0, 0), (.iload_n 1, 1, 1, 0, 0), (.iconst 1, 1, 0, 0, 1), (.isub, 1, 0, 0, 0), (.iload_n 3, 1, 3, 0, 0)], .invokevirtual 82, 3, 38, 13),
  (61, [(.iload 4, 2, 4, 0, 0), (.iconst (-1), 1, 0, 0, (-1))], .if_icmp .eq 15, 3, 16, 14),
  (67, [(.iload_n 3, 1, 3, 0, 0), (.iload_n 1, 1, 1, 0, 0), (.iconst 1, 1, 0, 0, 1), (.isub, 1, 0, 0, 0)], .invokestatic 72, 3, 167, 15),
  (74, [(.imul, 1, 0, 0, 0), (.iload 4, 2, 4, 0, 0), (.iadd, 1, 0, 0, 0), (.istore_n 2, 1, 2, 0, 0)], .nop, 0, 16, 0),
  (79, [(.iinc 3 1, 3, 3, 0, 1)], .goto (-56), 3, 8, 0),
  (85, [(.iload_n 2, 1, 2, 0, 0)], .ireturn, 1, 0, 0)]
def cd_X3_play : List SG := [(0, [(.aload_n 0, 1, 0, 0, 0), (.getfield 12, 3, 0, 3, 0), (.iload_n 1, 1, 1, 0, 0)], .invokevirtual 85, 3, 26, 1),
  (8, [(.istore_n 3, 1, 3, 0, 0), (.aload_n 0, 1, 0, 0, 0), (.getfield 12, 3, 0, 3, 0), (.iload_n 1, 1, 1, 0, 0)], .invokevirtual 88, 3, 27, 2),
  (17, [(.istore 4, 2, 4, 0, 0), (.aload_n 0, 1, 0, 0, 0), (.getfield 18, 3, 1, 3, 1), (.iload_n 3, 1, 3, 0, 0), (.dup2, 1, 0, 0, 0), (.iaload, 1, 0, 0, 0), (.getstatic 91, 3, 51, 0, 0), (.iload_n 2, 1, 2, 0, 0), (.iaload, 1, 0, 0, 0), (.iadd, 1, 0, 0, 0), (.iastore, 1, 0, 0, 0), (.aload_n 0, 1, 0, 0, 0), (.getfield 18, 3, 1, 3, 1), (.iload 4, 2, 4, 0, 0), (.dup2, 1, 0, 0, 0), (.iaload, 1, 0, 0, 0), (.getstatic 94, 3, 52, 0, 0), (.iload_n 2, 1, 2, 0, 0), (.iaload, 1, 0, 0, 0), (.iadd, 1, 0, 0, 0), (.iastore, 1, 0, 0, 0), (.aload_n 0, 1, 0, 0, 0), (.getfield 22, 3, 2, 3, 2), (.iload_n 3, 1, 3, 0, 0), (.dup2, 1, 0, 0, 0), (.iaload, 1, 0, 0, 0), (.iconst 1, 1, 0, 0, 1), (.isub, 1, 0, 0, 0), (.iastore, 1, 0, 0, 0), (.aload_n 0, 1, 0, 0, 0), (.getfield 22, 3, 2, 3, 2), (.iload 4, 2, 4, 0, 0), (.dup2, 1, 0, 0, 0), (.iaload, 1, 0, 0, 0), (.iconst 1, 1, 0, 0, 1), (.isub, 1, 0, 0, 0), (.iastore, 1, 0, 0, 0)], .return_, 1, 0, 0)]
def cd_X3_takeBack : List SG := [(0, [(.aload_n 0, 1, 0, 0, 0), (.getfield 12, 3, 0, 3, 0), (.iload_n 1, 1, 1, 0, 0)], .invokevirtual 85, 3, 26, 1),
  (8, [(.istore_n 3, 1, 3, 0, 0), (.aload_n 0, 1, 0, 0, 0), (.getfield 12, 3, 0, 3, 0), (.iload_n 1, 1, 1, 0, 0)], .invokevirtual 88, 3, 27, 2),
  (17, [(.istore 4, 2, 4, 0, 0), (.aload_n 0, 1, 0, 0, 0), (.getfield 18, 3, 1, 3, 1), (.iload_n 3, 1, 3, 0, 0), (.dup2, 1, 0, 0, 0), (.iaload, 1, 0, 0, 0), (.getstatic 91, 3, 51, 0, 0), (.iload_n 2, 1, 2, 0, 0), (.iaload, 1, 0, 0, 0), (.isub, 1, 0, 0, 0), (.iastore, 1, 0, 0, 0), (.aload_n 0, 1, 0, 0, 0), (.getfield 18, 3, 1, 3, 1), (.iload 4, 2, 4, 0, 0), (.dup2, 1, 0, 0, 0), (.iaload, 1, 0, 0, 0), (.getstatic 94, 3, 52, 0, 0), (.iload_n 2, 1, 2, 0, 0), (.iaload, 1, 0, 0, 0), (.isub, 1, 0, 0, 0), (.iastore, 1, 0, 0, 0), (.aload_n 0, 1, 0, 0, 0), (.getfield 22, 3, 2, 3, 2), (.iload_n 3, 1, 3, 0, 0), (.dup2, 1, 0, 0, 0), (.iaload, 1, 0, 0, 0), (.iconst 1, 1, 0, 0, 1), (.iadd, 1, 0, 0, 0), (.iastore, 1, 0, 0, 0), (.aload_n 0, 1, 0, 0, 0), (.getfield 22, 3, 2, 3, 2), (.iload 4, 2, 4, 0, 0), (.dup2, 1, 0, 0, 0), (.iaload, 1, 0, 0, 0), (.iconst 1, 1, 0, 0, 1), (.iadd, 1, 0, 0, 0), (.iastore, 1, 0, 0, 0)], .return_, 1, 0, 0)]
def cd_X3_isPassedAnyhow : List SG := [(0, [(.aload_n 0, 1, 0, 0, 0), (.getfield 18, 3, 1, 3, 1), (.aload_n 0, 1, 0, 0, 0), (.getfield 53, 3, 4, 3, 4), (.iaload, 1, 0, 0, 0), (.iconst 3, 1, 0, 0, 3), (.aload_n 0, 1, 0, 0, 0), (.getfield 22, 3, 2, 3, 2), (.aload_n 0, 1, 0, 0, 0), (.getfield 53, 3, 4, 3, 4), (.iaload, 1, 0, 0, 0), (.imul, 1, 0, 0, 0), (.iadd, 1, 0, 0, 0), (.aload_n 0, 1, 0, 0, 0), (.getfield 59, 3, 6, 3, 6), (.iadd, 1, 0, 0, 0), (.istore_n 1, 1, 1, 0, 0), (.iconst 0, 1, 0, 0, 0), (.istore_n 2, 1, 2, 0, 0), (.iconst 0, 1, 0, 0, 0), (.istore_n 3, 1, 3, 0, 0)], .nop, 0, 1, 0),
  (31, [(.iload_n 3, 1, 3, 0, 0), (.aload_n 0, 1, 0, 0, 0), (.getfield 50, 3, 3, 3, 3)], .if_icmp .ge 30, 3, 6, 2),
  (39, [(.iload_n 3, 1, 3, 0, 0), (.aload_n 0, 1, 0, 0, 0), (.getfield 53, 3, 4, 3, 4)], .if_icmp .eq 16, 3, 5, 3),
  (47, [(.aload_n 0, 1, 0, 0, 0), (.getfield 18, 3, 1, 3, 1), (.iload_n 3, 1, 3, 0, 0), (.iaload, 1, 0, 0, 0), (.iload_n 1, 1, 1, 0, 0)], .if_icmp .lt 6, 3, 5, 4),
  (57, [(.iinc 2 1, 3, 2, 0, 1)], .nop, 0, 5, 0),
  (60, [(.iinc 3 1, 3, 3, 0, 1)], .goto (-32), 3, 1, 0),
  (66, [(.iload_n 2, 1, 2, 0, 0), (.aload_n 0, 1, 0, 0, 0), (.getfield 56, 3, 5, 3, 5)], .if_icmp .lt 7, 3, 8, 7),
  (74, [(.iconst 1, 1, 0, 0, 1)], .goto 4, 3, 9, 0),
  (78, [(.iconst 0, 1, 0, 0, 0)], .nop, 0, 9, 0),
  (79, [], .ireturn, 1, 1, 0)]
def cd_X3_canBePassed : List SG := [(0, [(.aload_n 0, 1, 0, 0, 0), (.getfield 18, 3, 1, 3, 1), (.aload_n 0, 1, 0, 0, 0), (.getfield 53, 3, 4, 3, 4), (.iaload, 1, 0, 0, 0), (.aload_n 0, 1, 0, 0, 0), (.getfield 59, 3, 6, 3, 6), (.iadd, 1, 0, 0, 0), (.istore_n 1, 1, 1, 0, 0), (.iconst 0, 1, 0, 0, 0), (.istore_n 2, 1, 2, 0, 0), (.iconst 0, 1, 0, 0, 0), (.istore_n 3, 1, 3, 0, 0)], .nop, 0, 1, 0),
  (19, [(.iload_n 3, 1, 3, 0, 0), (.aload_n 0, 1, 0, 0, 0), (.getfield 50, 3, 3, 3, 3)], .if_icmp .ge 39, 3, 6, 2),
  (27, [(.iload_n 3, 1, 3, 0, 0), (.aload_n 0, 1, 0, 0, 0), (.getfield 53, 3, 4, 3, 4)], .if_icmp .eq 25, 3, 5, 3),
  (35, [(.aload_n 0, 1, 0, 0, 0), (.getfield 18, 3, 1, 3, 1), (.iload_n 3, 1, 3, 0, 0), (.iaload, 1, 0, 0, 0), (.iconst 3, 1, 0, 0, 3), (.aload_n 0, 1, 0, 0, 0), (.getfield 22, 3, 2, 3, 2), (.iload_n 3, 1, 3, 0, 0), (.iaload, 1, 0, 0, 0), (.imul, 1, 0, 0, 0), (.iadd, 1, 0, 0, 0), (.iload_n 1, 1, 1, 0, 0)], .if_icmp .lt 6, 3, 5, 4),
  (54, [(.iinc 2 1, 3, 2, 0, 1)], .nop, 0, 5, 0),
  (57, [(.iinc 3 1, 3, 3, 0, 1)], .goto (-41), 3, 1, 0),
  (63, [(.iload_n 2, 1, 2, 0, 0), (.aload_n 0, 1, 0, 0, 0), (.getfield 56, 3, 5, 3, 5)], .if_icmp .lt 7, 3, 8, 7),
  (71, [(.iconst 1, 1, 0, 0, 1)], .goto 4, 3, 9, 0),
  (75, [(.iconst 0, 1, 0, 0, 0)], .nop, 0, 9, 0),
  (76, [], .ireturn, 1, 1, 0)]
def cd_X4_countThrough : List SG := [(0, [(.aload_n 0, 1, 0, 0, 0), (.aload_n 1, 1, 1, 0, 0), (.iload_n 2, 1, 2, 0, 0), (.iload_n 3, 1, 3, 0, 0), (.aload 4, 2, 4, 0, 0), (.aload_n 0, 1, 0, 0, 0), (.getfield 10, 3, 0, 4, 0), (.aload_n 1, 1, 1, 0, 0)], .invokevirtual 16, 3, 23, 1),
  (14, [], .invokevirtual 20, 3, 42, 2),
  (17, [], .ireturn, 1, 0, 0)]
def cd_X4_countFrom : List SG := [(0, [(.iload 5, 2, 5, 0, 0)], .ifCond .gt 25, 3, 7, 1),
  (5, [(.aload 4, 2, 4, 0, 0), (.aload_n 1, 1, 1, 0, 0)], .invokevirtual 24, 3, 43, 2),
  (11, [(.aload 4, 2, 4, 0, 0), (.iload_n 2, 1, 2, 0, 0)], .invokevirtual 30, 3, 45, 3),
  (17, [(.iload_n 3, 1, 3, 0, 0)], .if_icmp .ge 7, 3, 5, 4),
  (21, [(.iconst 1, 1, 0, 0, 1)], .goto 4, 3, 6, 0),
  (25, [(.iconst 0, 1, 0, 0, 0)], .nop, 0, 6, 0),
  (26, [], .ireturn, 1, 0, 0),
  (27, [(.aload_n 0, 1, 0, 0, 0), (.getfield 10, 3, 0, 4, 0), (.iload 5, 2, 5, 0, 0), (.iconst 1, 1, 0, 0, 1), (.isub, 1, 0, 0, 0)], .invokevirtual 34, 3, 26, 8),
  (38, [(.istore 6, 2, 6, 0, 0), (.aload_n 0, 1, 0, 0, 0), (.getfield 10, 3, 0, 4, 0), (.iload 5, 2, 5, 0, 0), (.iconst 1, 1, 0, 0, 1), (.isub, 1, 0, 0, 0)], .invokevirtual 37, 3, 27, 9),
  (51, [(.istore 7, 2, 7, 0, 0), (.iconst 0, 1, 0, 0, 0), (.istore 8, 2, 8, 0, 0), (.iconst 0, 1, 0, 0, 0), (.istore 9, 2, 9, 0, 0)], .nop, 0, 10, 0),
  (59, [(.iload 9, 2, 9, 0, 0), (.iconst 2, 1, 0, 0, 2)], .if_icmp .gt 54, 3, 17, 11),
  (65, [(.iconst 0, 1, 0, 0, 0), (.istore 10, 2, 10, 0, 0)], .nop, 0, 12, 0),
  (68, [(.iload 10, 2, 10, 0, 0), (.iconst 2, 1, 0, 0, 2)], .if_icmp .gt 39, 3, 16, 13),
  (74, [(.aload_n 1, 1, 1, 0, 0), (.iload 6, 2, 6, 0, 0), (.iload 7, 2, 7, 0, 0), (.iload 9, 2, 9, 0, 0), (.iload 10, 2, 10, 0, 0)], .invokevirtual 40, 3, 6, 14),
  (86, [(.iload 8, 2, 8, 0, 0), (.aload_n 0, 1, 0, 0, 0), (.aload_n 1, 1, 1, 0, 0), (.iload_n 2, 1, 2, 0, 0), (.iload_n 3, 1, 3, 0, 0), (.aload 4, 2, 4, 0, 0), (.iload 5, 2, 5, 0, 0), (.iconst 1, 1, 0, 0, 1), (.isub, 1, 0, 0, 0)], .invokevirtual 20, 3, 42, 15),
  (101, [(.iadd, 1, 0, 0, 0), (.istore 8, 2, 8, 0, 0), (.iinc 10 1, 3, 10, 0, 1)], .goto (-39), 3, 12, 0),
  (110, [(.iinc 9 1, 3, 9, 0, 1)], .goto (-54), 3, 10, 0),
  (116, [(.aload_n 1, 1, 1, 0, 0), (.iload 6, 2, 6, 0, 0), (.iload 7, 2, 7, 0, 0)], .invokevirtual 46, 3, 7, 18),
  (124, [(.iload 8, 2, 8, 0, 0)], .ireturn, 1, 0, 0)]
def cd_X5_draw : List SG := [(0, [(.aload_n 1, 1, 1, 0, 0)], .invokevirtual 29, 3, 1, 1),
  (4, [(.istore_n 2, 1, 2, 0, 0), (.iconst 0, 1, 0, 0, 0), (.istore_n 3, 1, 3, 0, 0)], .nop, 0, 2, 0),
  (7, [(.iload_n 3, 1, 3, 0, 0), (.iload_n 2, 1, 2, 0, 0)], .if_icmp .ge 30, 3, 6, 3),
  (12, [(.aload_n 0, 1, 0, 0, 0), (.getfield 20, 3, 1, 5, 1), (.iload_n 3, 1, 3, 0, 0), (.iload_n 3, 1, 3, 0, 0), (.iastore, 1, 0, 0, 0), (.aload_n 0, 1, 0, 0, 0), (.getfield 16, 3, 0, 5, 0), (.iload_n 3, 1, 3, 0, 0), (.iconst 0, 1, 0, 0, 0), (.aload_n 1, 1, 1, 0, 0), (.iload_n 3, 1, 3, 0, 0)], .invokevirtual 35, 3, 14, 4),
  (30, [], .invokevirtual 39, 3, 28, 5),
  (33, [(.iinc 3 1, 3, 3, 0, 1)], .goto (-29), 3, 2, 0),
  (39, [(.aload_n 0, 1, 0, 0, 0), (.iconst 0, 1, 0, 0, 0), (.iload_n 2, 1, 2, 0, 0), (.iconst 1, 1, 0, 0, 1), (.iconst 0, 1, 0, 0, 0)], .invokevirtual 43, 3, 51, 7),
  (47, [(.iconst 0, 1, 0, 0, 0), (.istore_n 3, 1, 3, 0, 0), (.iconst 1, 1, 0, 0, 1), (.istore 4, 2, 4, 0, 0)], .nop, 0, 8, 0),
  (52, [(.iload 4, 2, 4, 0, 0), (.iload_n 2, 1, 2, 0, 0)], .if_icmp .gt 33, 3, 14, 9),
  (58, [(.aload_n 0, 1, 0, 0, 0), (.iload_n 3, 1, 3, 0, 0), (.iload 4, 2, 4, 0, 0), (.iload_n 2, 1, 2, 0, 0), (.iconst 1, 1, 0, 0, 1)], .invokevirtual 47, 3, 53, 10),
  (67, [], .ifCond .eq 15, 3, 13, 11),
  (70, [(.aload_n 0, 1, 0, 0, 0), (.aload_n 1, 1, 1, 0, 0), (.iload_n 3, 1, 3, 0, 0), (.iload 4, 2, 4, 0, 0), (.iconst 0, 1, 0, 0, 0)], .invokevirtual 51, 3, 48, 12),
  (79, [(.iload 4, 2, 4, 0, 0), (.istore_n 3, 1, 3, 0, 0)], .nop, 0, 13, 0),
  (82, [(.iinc 4 1, 3, 4, 0, 1)], .goto (-33), 3, 8, 0),
  (88, [], .return_, 1, 0, 0)]
def cd_X5_seatAt : List SG := [(0, [(.aload_n 0, 1, 0, 0, 0), (.getfield 20, 3, 1, 5, 1), (.iload_n 1, 1, 1, 0, 0), (.iaload, 1, 0, 0, 0)], .ireturn, 1, 0, 0)]
def cd_X5_placeOf : List SG := [(0, [(.iconst 0, 1, 0, 0, 0), (.istore_n 2, 1, 2, 0, 0)], .nop, 0, 1, 0),
  (2, [(.iload_n 2, 1, 2, 0, 0), (.iconst 4, 1, 0, 0, 4)], .if_icmp .ge 19, 3, 4, 2),
  (7, [(.aload_n 0, 1, 0, 0, 0), (.getfield 20, 3, 1, 5, 1), (.iload_n 2, 1, 2, 0, 0), (.iaload, 1, 0, 0, 0), (.iload_n 1, 1, 1, 0, 0)], .if_icmp .eq 9, 3, 4, 3),
  (17, [(.iinc 2 1, 3, 2, 0, 1)], .goto (-18), 3, 1, 0),
  (23, [(.iload_n 2, 1, 2, 0, 0)], .ireturn, 1, 0, 0)]
def cd_X5_ruleBetween : List SG := [(0, [(.aload_n 0, 1, 0, 0, 0), (.getfield 26, 3, 2, 5, 2), (.iload_n 1, 1, 1, 0, 0), (.aaload, 1, 0, 0, 0), (.iload_n 2, 1, 2, 0, 0), (.iaload, 1, 0, 0, 0)], .ireturn, 1, 0, 0)]
def cd_X5_setOf : List SG := [(0, [(.iconst 0, 1, 0, 0, 0), (.istore_n 3, 1, 3, 0, 0), (.iload_n 1, 1, 1, 0, 0), (.istore 4, 2, 4, 0, 0)], .nop, 0, 1, 0),
  (5, [(.iload 4, 2, 4, 0, 0), (.iload_n 2, 1, 2, 0, 0)], .if_icmp .ge 21, 3, 3, 2),
  (11, [(.iload_n 3, 1, 3, 0, 0), (.iconst 1, 1, 0, 0, 1), (.aload_n 0, 1, 0, 0, 0), (.getfield 20, 3, 1, 5, 1), (.iload 4, 2, 4, 0, 0), (.iaload, 1, 0, 0, 0), (.ishl, 1, 0, 0, 0), (.ior, 1, 0, 0, 0), (.istore_n 3, 1, 3, 0, 0), (.iinc 4 1, 3, 4, 0, 1)], .goto (-21), 3, 1, 0),
  (29, [(.iload_n 3, 1, 3, 0, 0)], .ireturn, 1, 0, 0)]
def cd_X5_settle : List SG := [(0, [(.iload_n 3, 1, 3, 0, 0), (.iload_n 2, 1, 2, 0, 0), (.isub, 1, 0, 0, 0), (.iconst 2, 1, 0, 0, 2)], .if_icmp .lt 9, 3, 2, 1),
  (7, [(.iload 4, 2, 4, 0, 0), (.iconst 5, 1, 0, 0, 5)], .if_icmp .lt 4, 3, 3, 2),
  (13, [], .return_, 1, 0, 0),
  (14, [(.aload_n 0, 1, 0, 0, 0), (.aload_n 1, 1, 1, 0, 0), (.iload_n 2, 1, 2, 0, 0), (.iload_n 3, 1, 3, 0, 0)], .invokevirtual 55, 3, 49, 4),
  (21, [(.aload_n 0, 1, 0, 0, 0), (.iload_n 2, 1, 2, 0, 0), (.iload_n 3, 1, 3, 0, 0), (.iconst 3, 1, 0, 0, 3), (.iconst 1, 1, 0, 0, 1)], .invokevirtual 43, 3, 51, 5),
  (29, [(.aload_n 0, 1, 0, 0, 0), (.getfield 16, 3, 0, 5, 0), (.aload_n 0, 1, 0, 0, 0), (.getfield 20, 3, 1, 5, 1), (.iload_n 2, 1, 2, 0, 0), (.iaload, 1, 0, 0, 0), (.aload_n 0, 1, 0, 0, 0), (.getfield 20, 3, 1, 5, 1), (.iload_n 3, 1, 3, 0, 0), (.iconst 1, 1, 0, 0, 1), (.isub, 1, 0, 0, 0), (.iaload, 1, 0, 0, 0), (.iconst 3, 1, 0, 0, 3)], .invokevirtual 59, 3, 30, 6),
  (51, [(.iconst 3, 1, 0, 0, 3)], .if_icmp .ne 19, 3, 10, 7),
  (55, [(.aload_n 0, 1, 0, 0, 0), (.aload_n 1, 1, 1, 0, 0), (.iload_n 2, 1, 2, 0, 0), (.iload_n 3, 1, 3, 0, 0)], .invokevirtual 63, 3, 50, 8),
  (62, [(.aload_n 0, 1, 0, 0, 0), (.iload_n 2, 1, 2, 0, 0), (.iload_n 3, 1, 3, 0, 0), (.iconst 4, 1, 0, 0, 4), (.iconst 4, 1, 0, 0, 4)], .invokevirtual 43, 3, 51, 9),
  (70, [], .return_, 1, 0, 0),
  (71, [(.iload_n 2, 1, 2, 0, 0), (.istore 5, 2, 5, 0, 0), (.iload_n 2, 1, 2, 0, 0), (.iconst 1, 1, 0, 0, 1), (.iadd, 1, 0, 0, 0), (.istore 6, 2, 6, 0, 0)], .nop, 0, 11, 0),
  (79, [(.iload 6, 2, 6, 0, 0), (.iload_n 3, 1, 3, 0, 0)], .if_icmp .gt 39, 3, 17, 12),
  (85, [(.aload_n 0, 1, 0, 0, 0), (.iload 5, 2, 5, 0, 0), (.iload 6, 2, 6, 0, 0), (.iload_n 3, 1, 3, 0, 0), (.iconst 3, 1, 0, 0, 3)], .invokevirtual 47, 3, 53, 13),
  (95, [], .ifCond .eq 20, 3, 16, 14),
  (98, [(.aload_n 0, 1, 0, 0, 0), (.aload_n 1, 1, 1, 0, 0), (.iload 5, 2, 5, 0, 0), (.iload 6, 2, 6, 0, 0), (.iload 4, 2, 4, 0, 0), (.iconst 1, 1, 0, 0, 1), (.iadd, 1, 0, 0, 0)], .invokevirtual 51, 3, 48, 15),
  (111, [(.iload 6, 2, 6, 0, 0), (.istore 5, 2, 5, 0, 0)], .nop, 0, 16, 0),
  (115, [(.iinc 6 1, 3, 6, 0, 1)], .goto (-39), 3, 11, 0),
  (121, [], .return_, 1, 0, 0)]
def cd_X5_markTied : List SG := [(0, [(.aload_n 0, 1, 0, 0, 0), (.iload_n 2, 1, 2, 0, 0), (.iload_n 3, 1, 3, 0, 0)], .invokevirtual 66, 3, 47, 1),
  (6, [(.istore 4, 2, 4, 0, 0), (.iload_n 2, 1, 2, 0, 0), (.istore 5, 2, 5, 0, 0)], .nop, 0, 2, 0),
  (11, [(.iload 5, 2, 5, 0, 0), (.iload_n 3, 1, 3, 0, 0)], .if_icmp .ge 72, 3, 10, 3),
  (17, [(.aload_n 0, 1, 0, 0, 0), (.getfield 20, 3, 1, 5, 1), (.iload 5, 2, 5, 0, 0), (.iaload, 1, 0, 0, 0), (.istore 6, 2, 6, 0, 0), (.aload_n 0, 1, 0, 0, 0), (.getfield 16, 3, 0, 5, 0), (.iload 6, 2, 6, 0, 0), (.iconst 0, 1, 0, 0, 0), (.aload_n 1, 1, 1, 0, 0), (.iload 6, 2, 6, 0, 0), (.iload 4, 2, 4, 0, 0)], .invokevirtual 70, 3, 16, 4),
  (41, [], .invokevirtual 39, 3, 28, 5),
  (44, [(.aload_n 0, 1, 0, 0, 0), (.getfield 16, 3, 0, 5, 0), (.iload 6, 2, 6, 0, 0), (.iconst 1, 1, 0, 0, 1), (.aload_n 1, 1, 1, 0, 0), (.iload 6, 2, 6, 0, 0), (.iload 4, 2, 4, 0, 0)], .invokevirtual 73, 3, 17, 6),
  (59, [], .invokevirtual 39, 3, 28, 7),
  (62, [(.aload_n 0, 1, 0, 0, 0), (.getfield 16, 3, 0, 5, 0), (.iload 6, 2, 6, 0, 0), (.iconst 2, 1, 0, 0, 2), (.aload_n 1, 1, 1, 0, 0), (.iload 6, 2, 6, 0, 0), (.iload 4, 2, 4, 0, 0)], .invokevirtual 76, 3, 18, 8),
  (77, [], .invokevirtual 39, 3, 28, 9),
  (80, [(.iinc 5 1, 3, 5, 0, 1)], .goto (-72), 3, 2, 0),
  (86, [], .return_, 1, 0, 0)]
def cd_X5_markAll : List SG := [(0, [(.aload_n 1, 1, 1, 0, 0)], .invokevirtual 79, 3, 5, 1),
  (4, [(.istore 4, 2, 4, 0, 0), (.iload_n 2, 1, 2, 0, 0), (.istore 5, 2, 5, 0, 0)], .nop, 0, 2, 0),
  (9, [(.iload 5, 2, 5, 0, 0), (.iload_n 3, 1, 3, 0, 0)], .if_icmp .ge 86, 3, 12, 3),
  (15, [(.aload_n 0, 1, 0, 0, 0), (.getfield 20, 3, 1, 5, 1), (.iload 5, 2, 5, 0, 0), (.iaload, 1, 0, 0, 0), (.istore 6, 2, 6, 0, 0), (.aload_n 0, 1, 0, 0, 0), (.getfield 16, 3, 0, 5, 0), (.iload 6, 2, 6, 0, 0), (.iconst 0, 1, 0, 0, 0), (.aload_n 1, 1, 1, 0, 0), (.iload 6, 2, 6, 0, 0), (.iload 4, 2, 4, 0, 0)], .invokevirtual 73, 3, 17, 4),
  (39, [], .invokevirtual 39, 3, 28, 5),
  (42, [(.aload_n 0, 1, 0, 0, 0), (.getfield 16, 3, 0, 5, 0), (.iload 6, 2, 6, 0, 0), (.iconst 1, 1, 0, 0, 1), (.aload_n 1, 1, 1, 0, 0), (.iload 6, 2, 6, 0, 0), (.iload 4, 2, 4, 0, 0)], .invokevirtual 76, 3, 18, 6),
  (57, [], .invokevirtual 39, 3, 28, 7),
  (60, [(.aload_n 0, 1, 0, 0, 0), (.getfield 16, 3, 0, 5, 0), (.iload 6, 2, 6, 0, 0), (.iconst 2, 1, 0, 0, 2), (.aload_n 1, 1, 1, 0, 0), (.iload 6, 2, 6, 0, 0)], .invokevirtual 82, 3, 19, 8),
  (73, [], .invokevirtual 39, 3, 28, 9),
  (76, [(.aload_n 0, 1, 0, 0, 0), (.getfield 16, 3, 0, 5, 0), (.iload 6, 2, 6, 0, 0), (.iconst 3, 1, 0, 0, 3), (.aload_n 1, 1, 1, 0, 0), (.iload 6, 2, 6, 0, 0)], .invokevirtual 85, 3, 20, 10),
  (89, [], .invokevirtual 39, 3, 28, 11),
  (92, [(.iinc 5 1, 3, 5, 0, 1)], .goto (-86), 3, 2, 0),
  (98, [], .return_, 1, 0, 0)]
def cd_X5_arrange : List SG := [(0, [(.iload_n 1, 1, 1, 0, 0), (.iconst 1, 1, 0, 0, 1), (.iadd, 1, 0, 0, 0), (.istore 5, 2, 5, 0, 0)], .nop, 0, 1, 0),
  (5, [(.iload 5, 2, 5, 0, 0), (.iload_n 2, 1, 2, 0, 0)], .if_icmp .ge 88, 3, 8, 2),
  (11, [(.iload 5, 2, 5, 0, 0), (.istore 6, 2, 6, 0, 0)], .nop, 0, 3, 0),
  (15, [(.iload 6, 2, 6, 0, 0), (.iload_n 1, 1, 1, 0, 0)], .if_icmp .le 72, 3, 7, 4),
  (21, [(.aload_n 0, 1, 0, 0, 0), (.getfield 16, 3, 0, 5, 0), (.aload_n 0, 1, 0, 0, 0), (.getfield 20, 3, 1, 5, 1), (.iload 6, 2, 6, 0, 0), (.iaload, 1, 0, 0, 0), (.aload_n 0, 1, 0, 0, 0), (.getfield 20, 3, 1, 5, 1), (.iload 6, 2, 6, 0, 0), (.iconst 1, 1, 0, 0, 1), (.isub, 1, 0, 0, 0), (.iaload, 1, 0, 0, 0), (.iload_n 3, 1, 3, 0, 0)], .invokevirtual 88, 3, 31, 5),
  (45, [], .ifCond .eq 45, 3, 7, 6),
  (48, [(.aload_n 0, 1, 0, 0, 0), (.getfield 20, 3, 1, 5, 1), (.iload 6, 2, 6, 0, 0), (.iaload, 1, 0, 0, 0), (.istore 7, 2, 7, 0, 0), (.aload_n 0, 1, 0, 0, 0), (.getfield 20, 3, 1, 5, 1), (.iload 6, 2, 6, 0, 0), (.aload_n 0, 1, 0, 0, 0), (.getfield 20, 3, 1, 5, 1), (.iload 6, 2, 6, 0, 0), (.iconst 1, 1, 0, 0, 1), (.isub, 1, 0, 0, 0), (.iaload, 1, 0, 0, 0), (.iastore, 1, 0, 0, 0), (.aload_n 0, 1, 0, 0, 0), (.getfield 20, 3, 1, 5, 1), (.iload 6, 2, 6, 0, 0), (.iconst 1, 1, 0, 0, 1), (.isub, 1, 0, 0, 0), (.iload 7, 2, 7, 0, 0), (.iastore, 1, 0, 0, 0), (.iinc 6 (-1), 3, 6, 0, (-1))], .goto (-72), 3, 3, 0),
  (90, [(.iinc 5 1, 3, 5, 0, 1)], .goto (-88), 3, 1, 0),
  (96, [(.iload_n 1, 1, 1, 0, 0), (.istore 5, 2, 5, 0, 0)], .nop, 0, 9, 0),
  (99, [(.iload 5, 2, 5, 0, 0), (.iload_n 2, 1, 2, 0, 0)], .if_icmp .ge 48, 3, 15, 10),
  (105, [(.iload 5, 2, 5, 0, 0), (.iconst 1, 1, 0, 0, 1), (.iadd, 1, 0, 0, 0), (.istore 6, 2, 6, 0, 0)], .nop, 0, 11, 0),
  (111, [(.iload 6, 2, 6, 0, 0), (.iload_n 2, 1, 2, 0, 0)], .if_icmp .ge 30, 3, 14, 12),
  (117, [(.aload_n 0, 1, 0, 0, 0), (.aload_n 0, 1, 0, 0, 0), (.getfield 20, 3, 1, 5, 1), (.iload 5, 2, 5, 0, 0), (.iaload, 1, 0, 0, 0), (.aload_n 0, 1, 0, 0, 0), (.getfield 20, 3, 1, 5, 1), (.iload 6, 2, 6, 0, 0), (.iaload, 1, 0, 0, 0), (.iload_n 3, 1, 3, 0, 0), (.iload 4, 2, 4, 0, 0)], .invokevirtual 92, 3, 52, 13),
  (138, [(.iinc 6 1, 3, 6, 0, 1)], .goto (-30), 3, 11, 0),
  (144, [(.iinc 5 1, 3, 5, 0, 1)], .goto (-48), 3, 9, 0),
  (150, [], .return_, 1, 0, 0)]
def cd_X5_noteRule : List SG := [(0, [(.aload_n 0, 1, 0, 0, 0), (.getfield 16, 3, 0, 5, 0), (.iload_n 1, 1, 1, 0, 0), (.iload_n 2, 1, 2, 0, 0), (.iload_n 3, 1, 3, 0, 0)], .invokevirtual 59, 3, 30, 1),
  (10, [(.istore 5, 2, 5, 0, 0), (.iload 5, 2, 5, 0, 0), (.iload_n 3, 1, 3, 0, 0)], .if_icmp .ge 29, 3, 3, 2),
  (18, [(.aload_n 0, 1, 0, 0, 0), (.getfield 26, 3, 2, 5, 2), (.iload_n 1, 1, 1, 0, 0), (.aaload, 1, 0, 0, 0), (.iload_n 2, 1, 2, 0, 0), (.iload 4, 2, 4, 0, 0), (.iload 5, 2, 5, 0, 0), (.iadd, 1, 0, 0, 0), (.iastore, 1, 0, 0, 0), (.aload_n 0, 1, 0, 0, 0), (.getfield 26, 3, 2, 5, 2), (.iload_n 2, 1, 2, 0, 0), (.aaload, 1, 0, 0, 0), (.iload_n 1, 1, 1, 0, 0), (.iload 4, 2, 4, 0, 0), (.iload 5, 2, 5, 0, 0), (.iadd, 1, 0, 0, 0), (.iastore, 1, 0, 0, 0)], .nop, 0, 3, 0),
  (44, [], .return_, 1, 0, 0)]
def cd_X5_alikeEnd : List SG := [(0, [(.iload_n 2, 1, 2, 0, 0), (.iload_n 3, 1, 3, 0, 0)], .if_icmp .ge 29, 3, 3, 1),
  (5, [(.aload_n 0, 1, 0, 0, 0), (.getfield 16, 3, 0, 5, 0), (.aload_n 0, 1, 0, 0, 0), (.getfield 20, 3, 1, 5, 1), (.iload_n 1, 1, 1, 0, 0), (.iaload, 1, 0, 0, 0), (.aload_n 0, 1, 0, 0, 0), (.getfield 20, 3, 1, 5, 1), (.iload_n 2, 1, 2, 0, 0), (.iaload, 1, 0, 0, 0), (.iload 4, 2, 4, 0, 0)], .invokevirtual 59, 3, 30, 2),
  (26, [(.iload 4, 2, 4, 0, 0)], .if_icmp .ge 7, 3, 4, 3),
  (31, [(.iconst 1, 1, 0, 0, 1)], .goto 4, 3, 5, 0),
  (35, [(.iconst 0, 1, 0, 0, 0)], .nop, 0, 5, 0),
  (36, [], .ireturn, 1, 1, 0)]
def cd_X6_measure : List SG := [(0, [(.aload_n 1, 1, 1, 0, 0), (.iload_n 2, 1, 2, 0, 0)], .invokestatic 20, 3, 57, 1),
  (5, [(.istore 4, 2, 4, 0, 0), (.iconst 0, 1, 0, 0, 0), (.istore 5, 2, 5, 0, 0)], .nop, 0, 2, 0),
  (10, [(.iload 5, 2, 5, 0, 0), (.iload_n 2, 1, 2, 0, 0)], .if_icmp .ge 140, 3, 18, 3),
  (16, [(.aload_n 1, 1, 1, 0, 0), (.iload 5, 2, 5, 0, 0), (.aaload, 1, 0, 0, 0), (.astore 6, 2, 6, 0, 0), (.aload_n 3, 1, 3, 0, 0), (.aload 6, 2, 6, 0, 0)], .invokevirtual 24, 3, 43, 4),
  (28, [(.aload_n 3, 1, 3, 0, 0), (.iconst 2, 1, 0, 0, 2)], .invokevirtual 30, 3, 44, 5),
  (33, [(.istore 7, 2, 7, 0, 0), (.aload_n 3, 1, 3, 0, 0), (.iconst 0, 1, 0, 0, 0), (.iload 4, 2, 4, 0, 0)], .invokevirtual 34, 3, 47, 6),
  (42, [(.istore 8, 2, 8, 0, 0), (.aload 6, 2, 6, 0, 0), (.iload 7, 2, 7, 0, 0), (.iload 8, 2, 8, 0, 0)], .invokevirtual 38, 3, 16, 7),
  (53, [(.istore 9, 2, 9, 0, 0), (.aload_n 0, 1, 0, 0, 0), (.getfield 16, 3, 0, 6, 0), (.iload 5, 2, 5, 0, 0), (.iconst 0, 1, 0, 0, 0), (.iload 9, 2, 9, 0, 0), (.aload 6, 2, 6, 0, 0), (.iload 7, 2, 7, 0, 0)], .invokevirtual 43, 3, 15, 8),
  (71, [(.isub, 1, 0, 0, 0)], .invokevirtual 46, 3, 28, 9),
  (75, [(.aload_n 0, 1, 0, 0, 0), (.getfield 16, 3, 0, 6, 0), (.iload 5, 2, 5, 0, 0), (.iconst 1, 1, 0, 0, 1), (.aload 6, 2, 6, 0, 0), (.iload 7, 2, 7, 0, 0), (.iload 8, 2, 8, 0, 0)], .invokevirtual 50, 3, 17, 10),
  (91, [], .invokevirtual 46, 3, 28, 11),
  (94, [(.aload_n 0, 1, 0, 0, 0), (.getfield 16, 3, 0, 6, 0), (.iload 5, 2, 5, 0, 0), (.iconst 2, 1, 0, 0, 2), (.aload 6, 2, 6, 0, 0), (.iload 7, 2, 7, 0, 0), (.iload 8, 2, 8, 0, 0)], .invokevirtual 53, 3, 18, 12),
  (110, [], .invokevirtual 46, 3, 28, 13),
  (113, [(.aload_n 0, 1, 0, 0, 0), (.getfield 16, 3, 0, 6, 0), (.iload 5, 2, 5, 0, 0), (.iconst 3, 1, 0, 0, 3), (.aload 6, 2, 6, 0, 0), (.iload 7, 2, 7, 0, 0)], .invokevirtual 56, 3, 19, 14),
  (127, [], .invokevirtual 46, 3, 28, 15),
  (130, [(.aload_n 0, 1, 0, 0, 0), (.getfield 16, 3, 0, 6, 0), (.iload 5, 2, 5, 0, 0), (.iconst 4, 1, 0, 0, 4), (.aload 6, 2, 6, 0, 0), (.iload 7, 2, 7, 0, 0)], .invokevirtual 59, 3, 20, 16),
  (144, [], .invokevirtual 46, 3, 28, 17),
  (147, [(.iinc 5 1, 3, 5, 0, 1)], .goto (-140), 3, 2, 0),
  (153, [], .return_, 1, 0, 0)]
def cd_X6_pointsOfThird : List SG := [(0, [(.aload_n 0, 1, 0, 0, 0), (.getfield 16, 3, 0, 6, 0), (.iload_n 1, 1, 1, 0, 0), (.iconst 0, 1, 0, 0, 0)], .invokevirtual 62, 3, 29, 1),
  (9, [], .ireturn, 1, 0, 0)]
def cd_X6_betterThan : List SG := [(0, [(.iconst 0, 1, 0, 0, 0), (.istore_n 3, 1, 3, 0, 0), (.iconst 0, 1, 0, 0, 0), (.istore 4, 2, 4, 0, 0)], .nop, 0, 1, 0),
  (5, [(.iload 4, 2, 4, 0, 0), (.iload_n 2, 1, 2, 0, 0)], .if_icmp .ge 26, 3, 6, 2),
  (11, [(.aload_n 0, 1, 0, 0, 0), (.getfield 16, 3, 0, 6, 0), (.iload 4, 2, 4, 0, 0), (.iload_n 1, 1, 1, 0, 0), (.iconst 5, 1, 0, 0, 5)], .invokevirtual 65, 3, 31, 3),
  (22, [], .ifCond .eq 6, 3, 5, 4),
  (25, [(.iinc 3 1, 3, 3, 0, 1)], .nop, 0, 5, 0),
  (28, [(.iinc 4 1, 3, 4, 0, 1)], .goto (-26), 3, 1, 0),
  (34, [(.iload_n 3, 1, 3, 0, 0)], .ireturn, 1, 0, 0)]
def cd_X6_smallestSize : List SG := [(0, [(.iconst 5, 1, 0, 0, 5), (.istore_n 2, 1, 2, 0, 0), (.iconst 0, 1, 0, 0, 0), (.istore_n 3, 1, 3, 0, 0)], .nop, 0, 1, 0),
  (4, [(.iload_n 3, 1, 3, 0, 0), (.iload_n 1, 1, 1, 0, 0)], .if_icmp .ge 20, 3, 4, 2),
  (9, [(.iload_n 2, 1, 2, 0, 0), (.aload_n 0, 1, 0, 0, 0), (.iload_n 3, 1, 3, 0, 0), (.aaload, 1, 0, 0, 0)], .invokevirtual 69, 3, 1, 3),
  (16, [(.invokestatic 73, 3, 0, 0, 0), (.istore_n 2, 1, 2, 0, 0), (.iinc 3 1, 3, 3, 0, 1)], .goto (-19), 3, 1, 0),
  (26, [(.iload_n 2, 1, 2, 0, 0)], .ireturn, 1, 0, 0)]
def cd_X7_addGroup : List SG := [(0, [(.iload_n 1, 1, 1, 0, 0), (.iconst 3, 1, 0, 0, 3), (.iconst 5, 1, 0, 0, 5)], .invokestatic 48, 3, 84, 1),
  (6, [(.aload_n 0, 1, 0, 0, 0), (.getfield 52, 3, 5, 7, 5), (.bipush 6, 2, 0, 0, 6)], .if_icmp .lt 13, 3, 3, 2),
  (15, [], .new 55, 3, 2, 57),
  (25, [(.aload_n 0, 1, 0, 0, 0), (.getfield 62, 3, 6, 7, 6), (.istore_n 2, 1, 2, 0, 0), (.aload_n 0, 1, 0, 0, 0), (.getfield 11, 3, 0, 7, 0), (.aload_n 0, 1, 0, 0, 0), (.getfield 52, 3, 5, 7, 5), (.aaload, 1, 0, 0, 0), (.iload_n 2, 1, 2, 0, 0), (.iload_n 1, 1, 1, 0, 0)], .invokevirtual 65, 3, 0, 4),
  (44, [(.aload_n 0, 1, 0, 0, 0), (.dup, 1, 0, 0, 0), (.getfield 52, 3, 5, 7, 5), (.iconst 1, 1, 0, 0, 1), (.iadd, 1, 0, 0, 0), (.putfield 52, 3, 5, 7, 5), (.aload_n 0, 1, 0, 0, 0), (.dup, 1, 0, 0, 0), (.getfield 62, 3, 6, 7, 6), (.iload_n 1, 1, 1, 0, 0), (.iadd, 1, 0, 0, 0), (.putfield 62, 3, 6, 7, 6), (.iload_n 2, 1, 2, 0, 0)], .ireturn, 1, 0, 0)]
def cd_X7_setResult : List SG := [(0, [(.aload_n 0, 1, 0, 0, 0), (.iload_n 1, 1, 1, 0, 0), (.iload_n 2, 1, 2, 0, 0)], .invokevirtual 69, 3, 88, 1),
  (6, [(.astore 5, 2, 5, 0, 0), (.iload_n 3, 1, 3, 0, 0), (.iconst 0, 1, 0, 0, 0), (.bipush 20, 2, 0, 0, 20)], .invokestatic 48, 3, 84, 2),
  (15, [(.iload 4, 2, 4, 0, 0), (.iconst 0, 1, 0, 0, 0), (.bipush 20, 2, 0, 0, 20)], .invokestatic 48, 3, 84, 3),
  (23, [(.aload 5, 2, 5, 0, 0), (.aload 5, 2, 5, 0, 0), (.iload_n 1, 1, 1, 0, 0)], .invokevirtual 73, 3, 3, 4),
  (31, [(.aload 5, 2, 5, 0, 0), (.iload_n 2, 1, 2, 0, 0)], .invokevirtual 73, 3, 3, 5),
  (37, [(.iload_n 3, 1, 3, 0, 0), (.iload 4, 2, 4, 0, 0)], .invokevirtual 77, 3, 6, 6),
  (43, [(.aload 5, 2, 5, 0, 0)], .invokevirtual 81, 3, 13, 7),
  (48, [], .ireturn, 1, 0, 0)]
def cd_X7_strike : List SG := [(0, [(.aload_n 0, 1, 0, 0, 0), (.iload_n 1, 1, 1, 0, 0), (.iload_n 2, 1, 2, 0, 0)], .invokevirtual 69, 3, 88, 1),
  (6, [(.astore_n 3, 1, 3, 0, 0), (.aload_n 3, 1, 3, 0, 0), (.iload_n 1, 1, 1, 0, 0)], .invokevirtual 73, 3, 3, 2),
  (12, [(.istore 4, 2, 4, 0, 0), (.aload_n 3, 1, 3, 0, 0), (.iload_n 2, 1, 2, 0, 0)], .invokevirtual 73, 3, 3, 3),
  (19, [(.istore 5, 2, 5, 0, 0), (.aload_n 3, 1, 3, 0, 0), (.iload 4, 2, 4, 0, 0), (.iload 5, 2, 5, 0, 0)], .invokevirtual 85, 3, 8, 4),
  (29, [], .ifCond .ne 13, 3, 6, 5),
  (32, [], .new 55, 3, 2, 89),
  (42, [(.aload_n 3, 1, 3, 0, 0), (.iload 4, 2, 4, 0, 0), (.iload 5, 2, 5, 0, 0)], .invokevirtual 91, 3, 7, 7),
  (50, [(.aload_n 3, 1, 3, 0, 0)], .invokevirtual 81, 3, 13, 8),
  (54, [], .ireturn, 1, 0, 0)]
def cd_X7_takeAway : List SG := [(0, [(.aload_n 0, 1, 0, 0, 0), (.iload_n 1, 1, 1, 0, 0)], .invokevirtual 94, 3, 87, 1),
  (5, [(.astore_n 3, 1, 3, 0, 0), (.iload_n 2, 1, 2, 0, 0), (.iconst 0, 1, 0, 0, 0), (.bipush 20, 2, 0, 0, 20)], .invokestatic 48, 3, 84, 2),
  (13, [(.aload_n 3, 1, 3, 0, 0), (.aload_n 3, 1, 3, 0, 0), (.iload_n 1, 1, 1, 0, 0)], .invokevirtual 73, 3, 3, 3),
  (19, [(.iload_n 2, 1, 2, 0, 0)], .invokevirtual 98, 3, 9, 4),
  (23, [], .ireturn, 1, 0, 0)]
def cd_X7_setCards : List SG := [(0, [(.aload_n 0, 1, 0, 0, 0), (.iload_n 1, 1, 1, 0, 0)], .invokevirtual 94, 3, 87, 1),
  (5, [(.astore_n 3, 1, 3, 0, 0), (.iload_n 2, 1, 2, 0, 0), (.iconst 0, 1, 0, 0, 0), (.bipush 50, 2, 0, 0, 50)], .invokestatic 48, 3, 84, 2),
  (13, [(.aload_n 3, 1, 3, 0, 0), (.aload_n 3, 1, 3, 0, 0), (.iload_n 1, 1, 1, 0, 0)], .invokevirtual 73, 3, 3, 3),
  (19, [(.iload_n 2, 1, 2, 0, 0)], .invokevirtual 102, 3, 10, 4),
  (23, [], .ireturn, 1, 0, 0)]
def cd_X7_setLot : List SG := [(0, [(.aload_n 0, 1, 0, 0, 0), (.iload_n 1, 1, 1, 0, 0)], .invokevirtual 94, 3, 87, 1),
  (5, [(.astore_n 3, 1, 3, 0, 0), (.iload_n 2, 1, 2, 0, 0), (.iconst 0, 1, 0, 0, 0), (.bipush 99, 2, 0, 0, 99)], .invokestatic 48, 3, 84, 2),
  (13, [(.aload_n 3, 1, 3, 0, 0), (.aload_n 3, 1, 3, 0, 0), (.iload_n 1, 1, 1, 0, 0)], .invokevirtual 73, 3, 3, 3),
  (19, [(.iload_n 2, 1, 2, 0, 0)], .invokevirtual 105, 3, 11, 4),
  (23, [], .ireturn, 1, 0, 0)]
def cd_X7_setThrough : List SG := [(0, [(.iload_n 1, 1, 1, 0, 0), (.iconst 1, 1, 0, 0, 1), (.iconst 2, 1, 0, 0, 2)], .invokestatic 48, 3, 84, 1),
  (6, [(.iload_n 2, 1, 2, 0, 0), (.iconst 0, 1, 0, 0, 0), (.bipush 6, 2, 0, 0, 6)], .invokestatic 48, 3, 84, 2),
  (13, [(.aload_n 0, 1, 0, 0, 0), (.iload_n 1, 1, 1, 0, 0), (.putfield 43, 3, 7, 7, 7), (.aload_n 0, 1, 0, 0, 0), (.iload_n 2, 1, 2, 0, 0), (.putfield 108, 3, 8, 7, 8)], .return_, 1, 0, 0)]
def cd_X7_groups : List SG := [(0, [(.aload_n 0, 1, 0, 0, 0), (.getfield 52, 3, 5, 7, 5)], .ireturn, 1, 0, 0)]
def cd_X7_teams : List SG := [(0, [(.aload_n 0, 1, 0, 0, 0), (.getfield 62, 3, 6, 7, 6)], .ireturn, 1, 0, 0)]
def cd_X7_groupOf : List SG := [(0, [(.aload_n 0, 1, 0, 0, 0), (.iload_n 1, 1, 1, 0, 0)], .invokevirtual 111, 3, 86, 1),
  (5, [], .ireturn, 1, 0, 0)]
def cd_X7_played : List SG := [(0, [(.aload_n 0, 1, 0, 0, 0), (.iload_n 1, 1, 1, 0, 0)], .invokevirtual 94, 3, 87, 1),
  (5, [(.astore_n 2, 1, 2, 0, 0), (.aload_n 2, 1, 2, 0, 0), (.aload_n 2, 1, 2, 0, 0), (.iload_n 1, 1, 1, 0, 0)], .invokevirtual 73, 3, 3, 2),
  (12, [], .invokevirtual 114, 3, 12, 3),
  (15, [], .ireturn, 1, 0, 0)]
def cd_X7_points : List SG := [(0, [(.aload_n 0, 1, 0, 0, 0), (.iload_n 1, 1, 1, 0, 0)], .invokevirtual 94, 3, 87, 1),
  (5, [(.astore_n 2, 1, 2, 0, 0), (.aload_n 2, 1, 2, 0, 0), (.aload_n 2, 1, 2, 0, 0), (.iload_n 1, 1, 1, 0, 0)], .invokevirtual 73, 3, 3, 2),
  (12, [], .invokevirtual 117, 3, 14, 3),
  (15, [], .ireturn, 1, 0, 0)]
def cd_X7_difference : List SG := [(0, [(.aload_n 0, 1, 0, 0, 0), (.iload_n 1, 1, 1, 0, 0)], .invokevirtual 94, 3, 87, 1),
  (5, [(.astore_n 2, 1, 2, 0, 0), (.aload_n 2, 1, 2, 0, 0), (.aload_n 2, 1, 2, 0, 0), (.iload_n 1, 1, 1, 0, 0)], .invokevirtual 73, 3, 3, 2),
  (12, [(.aload_n 2, 1, 2, 0, 0)], .invokevirtual 120, 3, 5, 3),
  (16, [], .invokevirtual 123, 3, 17, 4),
  (19, [], .ireturn, 1, 0, 0)]
def cd_X7_goals : List SG := [(0, [(.aload_n 0, 1, 0, 0, 0), (.iload_n 1, 1, 1, 0, 0)], .invokevirtual 94, 3, 87, 1),
  (5, [(.astore_n 2, 1, 2, 0, 0), (.aload_n 2, 1, 2, 0, 0), (.aload_n 2, 1, 2, 0, 0), (.iload_n 1, 1, 1, 0, 0)], .invokevirtual 73, 3, 3, 2),
  (12, [(.aload_n 2, 1, 2, 0, 0)], .invokevirtual 120, 3, 5, 3),
  (16, [], .invokevirtual 126, 3, 18, 4),
  (19, [], .ireturn, 1, 0, 0)]
def cd_X7_place : List SG := [(0, [(.aload_n 0, 1, 0, 0, 0), (.iload_n 1, 1, 1, 0, 0)], .invokevirtual 94, 3, 87, 1),
  (5, [(.astore_n 2, 1, 2, 0, 0), (.aload_n 0, 1, 0, 0, 0), (.getfield 18, 3, 1, 7, 1), (.aload_n 2, 1, 2, 0, 0)], .invokevirtual 129, 3, 43, 2),
  (14, [(.aload_n 0, 1, 0, 0, 0), (.getfield 18, 3, 1, 7, 1), (.aload_n 2, 1, 2, 0, 0), (.iload_n 1, 1, 1, 0, 0)], .invokevirtual 73, 3, 3, 3),
  (23, [], .invokevirtual 133, 3, 45, 4),
  (26, [], .ireturn, 1, 0, 0)]
def cd_X7_teamAt : List SG := [(0, [(.aload_n 0, 1, 0, 0, 0), (.iload_n 1, 1, 1, 0, 0)], .invokevirtual 136, 3, 85, 1),
  (5, [(.aload_n 0, 1, 0, 0, 0), (.getfield 11, 3, 0, 7, 0), (.iload_n 1, 1, 1, 0, 0), (.aaload, 1, 0, 0, 0), (.astore_n 3, 1, 3, 0, 0), (.iload_n 2, 1, 2, 0, 0)], .ifCond .lt 11, 3, 4, 2),
  (16, [(.iload_n 2, 1, 2, 0, 0), (.aload_n 3, 1, 3, 0, 0)], .invokevirtual 140, 3, 1, 3),
  (21, [], .if_icmp .lt 13, 3, 5, 4),
  (24, [], .new 143, 3, 0, 145),
  (34, [(.aload_n 0, 1, 0, 0, 0), (.getfield 18, 3, 1, 7, 1), (.aload_n 3, 1, 3, 0, 0)], .invokevirtual 129, 3, 43, 6),
  (42, [(.aload_n 3, 1, 3, 0, 0), (.aload_n 0, 1, 0, 0, 0), (.getfield 18, 3, 1, 7, 1), (.iload_n 2, 1, 2, 0, 0)], .invokevirtual 148, 3, 44, 7),
  (51, [], .invokevirtual 151, 3, 4, 8),
  (54, [], .ireturn, 1, 0, 0)]
def cd_X7_rule : List SG := [(0, [(.aload_n 0, 1, 0, 0, 0), (.iload_n 1, 1, 1, 0, 0), (.iload_n 2, 1, 2, 0, 0)], .invokevirtual 69, 3, 88, 1),
  (6, [(.astore_n 3, 1, 3, 0, 0), (.aload_n 0, 1, 0, 0, 0), (.getfield 18, 3, 1, 7, 1), (.aload_n 3, 1, 3, 0, 0)], .invokevirtual 129, 3, 43, 2),
  (15, [(.aload_n 0, 1, 0, 0, 0), (.getfield 18, 3, 1, 7, 1), (.aload_n 3, 1, 3, 0, 0), (.iload_n 1, 1, 1, 0, 0)], .invokevirtual 73, 3, 3, 3),
  (24, [(.aload_n 3, 1, 3, 0, 0), (.iload_n 2, 1, 2, 0, 0)], .invokevirtual 73, 3, 3, 4),
  (29, [], .invokevirtual 154, 3, 46, 5),
  (32, [], .ireturn, 1, 0, 0)]
def cd_X7_matchesLeft : List SG := [(0, [(.aload_n 0, 1, 0, 0, 0), (.iload_n 1, 1, 1, 0, 0)], .invokevirtual 136, 3, 85, 1),
  (5, [(.aload_n 0, 1, 0, 0, 0), (.getfield 11, 3, 0, 7, 0), (.iload_n 1, 1, 1, 0, 0), (.aaload, 1, 0, 0, 0)], .invokevirtual 81, 3, 13, 2),
  (14, [], .ireturn, 1, 0, 0)]
def cd_X7_thirdPoints : List SG := [(0, [(.aload_n 0, 1, 0, 0, 0), (.iload_n 1, 1, 1, 0, 0)], .invokevirtual 136, 3, 85, 1),
  (5, [(.aload_n 0, 1, 0, 0, 0), (.getfield 25, 3, 2, 7, 2), (.aload_n 0, 1, 0, 0, 0), (.getfield 11, 3, 0, 7, 0), (.aload_n 0, 1, 0, 0, 0), (.getfield 52, 3, 5, 7, 5), (.aload_n 0, 1, 0, 0, 0), (.getfield 18, 3, 1, 7, 1)], .invokevirtual 157, 3, 54, 2),
  (24, [(.aload_n 0, 1, 0, 0, 0), (.getfield 25, 3, 2, 7, 2), (.iload_n 1, 1, 1, 0, 0)], .invokevirtual 161, 3, 55, 3),
  (32, [], .ireturn, 1, 0, 0)]
def cd_X7_thirdRank : List SG := [(0, [(.aload_n 0, 1, 0, 0, 0), (.iload_n 1, 1, 1, 0, 0)], .invokevirtual 136, 3, 85, 1),
  (5, [(.aload_n 0, 1, 0, 0, 0), (.getfield 25, 3, 2, 7, 2), (.aload_n 0, 1, 0, 0, 0), (.getfield 11, 3, 0, 7, 0), (.aload_n 0, 1, 0, 0, 0), (.getfield 52, 3, 5, 7, 5), (.aload_n 0, 1, 0, 0, 0), (.getfield 18, 3, 1, 7, 1)], .invokevirtual 157, 3, 54, 2),
  (24, [(.aload_n 0, 1, 0, 0, 0), (.getfield 25, 3, 2, 7, 2), (.iload_n 1, 1, 1, 0, 0), (.aload_n 0, 1, 0, 0, 0), (.getfield 52, 3, 5, 7, 5)], .invokevirtual 164, 3, 56, 3),
  (36, [], .ireturn, 1, 0, 0)]
def cd_X7_isThrough : List SG := [(0, [(.aload_n 0, 1, 0, 0, 0), (.iload_n 1, 1, 1, 0, 0)], .invokevirtual 111, 3, 86, 1),
  (5, [(.istore_n 2, 1, 2, 0, 0), (.aload_n 0, 1, 0, 0, 0), (.getfield 11, 3, 0, 7, 0), (.iload_n 2, 1, 2, 0, 0), (.aaload, 1, 0, 0, 0), (.astore_n 3, 1, 3, 0, 0), (.aload_n 0, 1, 0, 0, 0), (.getfield 18, 3, 1, 7, 1), (.aload_n 3, 1, 3, 0, 0)], .invokevirtual 129, 3, 43, 2),
  (21, [(.aload_n 0, 1, 0, 0, 0), (.getfield 18, 3, 1, 7, 1), (.aload_n 3, 1, 3, 0, 0), (.iload_n 1, 1, 1, 0, 0)], .invokevirtual 73, 3, 3, 3),
  (30, [], .invokevirtual 133, 3, 45, 4),
  (33, [(.istore 4, 2, 4, 0, 0), (.iload 4, 2, 4, 0, 0), (.iconst 2, 1, 0, 0, 2)], .if_icmp .eq 18, 3, 9, 5),
  (41, [(.iload 4, 2, 4, 0, 0), (.aload_n 0, 1, 0, 0, 0), (.getfield 43, 3, 7, 7, 7)], .if_icmp .ge 7, 3, 7, 6),
  (50, [(.iconst 1, 1, 0, 0, 1)], .goto 4, 3, 8, 0),
  (54, [(.iconst 0, 1, 0, 0, 0)], .nop, 0, 8, 0),
  (55, [], .ireturn, 1, 1, 0),
  (56, [(.aload_n 0, 1, 0, 0, 0), (.getfield 25, 3, 2, 7, 2), (.aload_n 0, 1, 0, 0, 0), (.getfield 11, 3, 0, 7, 0), (.aload_n 0, 1, 0, 0, 0), (.getfield 52, 3, 5, 7, 5), (.aload_n 0, 1, 0, 0, 0), (.getfield 18, 3, 1, 7, 1)], .invokevirtual 157, 3, 54, 10),
  (75, [(.aload_n 0, 1, 0, 0, 0), (.getfield 25, 3, 2, 7, 2), (.iload_n 2, 1, 2, 0, 0), (.aload_n 0, 1, 0, 0, 0), (.getfield 52, 3, 5, 7, 5)], .invokevirtual 164, 3, 56, 11),
  (87, [(.aload_n 0, 1, 0, 0, 0), (.getfield 108, 3, 8, 7, 8)], .if_icmp .ge 7, 3, 13, 12),
  (94, [(.iconst 1, 1, 0, 0, 1)], .goto 4, 3, 14, 0),
  (98, [(.iconst 0, 1, 0, 0, 0)], .nop, 0, 14, 0),
  (99, [], .ireturn, 1, 1, 0)]
def cd_X7_ways : List SG := [(0, [(.aload_n 0, 1, 0, 0, 0), (.iload_n 1, 1, 1, 0, 0)], .invokevirtual 136, 3, 85, 1),
  (5, [(.aload_n 0, 1, 0, 0, 0), (.getfield 11, 3, 0, 7, 0), (.iload_n 1, 1, 1, 0, 0), (.aaload, 1, 0, 0, 0)], .invokevirtual 81, 3, 13, 2),
  (14, [], .invokestatic 167, 3, 167, 3),
  (17, [], .ireturn, 1, 0, 0)]
def cd_X7_waysSafe : List SG := [(0, [(.aload_n 0, 1, 0, 0, 0), (.iload_n 1, 1, 1, 0, 0)], .invokevirtual 94, 3, 87, 1),
  (5, [(.astore_n 2, 1, 2, 0, 0), (.aload_n 0, 1, 0, 0, 0), (.getfield 32, 3, 3, 7, 3), (.aload_n 2, 1, 2, 0, 0), (.aload_n 2, 1, 2, 0, 0), (.iload_n 1, 1, 1, 0, 0)], .invokevirtual 73, 3, 3, 2),
  (16, [(.aload_n 0, 1, 0, 0, 0), (.getfield 43, 3, 7, 7, 7), (.iconst 0, 1, 0, 0, 0)], .invokevirtual 170, 3, 32, 3),
  (24, [(.istore_n 3, 1, 3, 0, 0), (.aload_n 2, 1, 2, 0, 0)], .invokevirtual 81, 3, 13, 4),
  (29, [], .invokestatic 167, 3, 167, 5),
  (32, [(.iload_n 3, 1, 3, 0, 0), (.isub, 1, 0, 0, 0)], .ireturn, 1, 0, 0)]
def cd_X7_waysLost : List SG := [(0, [(.aload_n 0, 1, 0, 0, 0), (.iload_n 1, 1, 1, 0, 0)], .invokevirtual 94, 3, 87, 1),
  (5, [(.astore_n 2, 1, 2, 0, 0), (.aload_n 0, 1, 0, 0, 0), (.getfield 32, 3, 3, 7, 3), (.aload_n 2, 1, 2, 0, 0), (.aload_n 2, 1, 2, 0, 0), (.iload_n 1, 1, 1, 0, 0)], .invokevirtual 73, 3, 3, 2),
  (16, [(.aload_n 0, 1, 0, 0, 0), (.getfield 43, 3, 7, 7, 7), (.iconst 1, 1, 0, 0, 1)], .invokevirtual 170, 3, 32, 3),
  (24, [], .ireturn, 1, 0, 0)]
def cd_X7_badWay : List SG := [(0, [(.aload_n 0, 1, 0, 0, 0), (.iload_n 1, 1, 1, 0, 0)], .invokevirtual 94, 3, 87, 1),
  (5, [(.astore_n 2, 1, 2, 0, 0), (.aload_n 0, 1, 0, 0, 0), (.getfield 32, 3, 3, 7, 3), (.aload_n 2, 1, 2, 0, 0), (.aload_n 2, 1, 2, 0, 0), (.iload_n 1, 1, 1, 0, 0)], .invokevirtual 73, 3, 3, 2),
  (16, [(.aload_n 0, 1, 0, 0, 0), (.getfield 43, 3, 7, 7, 7), (.iconst 0, 1, 0, 0, 0)], .invokevirtual 174, 3, 33, 3),
  (24, [], .ireturn, 1, 0, 0)]
def cd_X7_scoresThrough : List SG := [(0, [(.aload_n 0, 1, 0, 0, 0), (.iload_n 1, 1, 1, 0, 0)], .invokevirtual 94, 3, 87, 1),
  (5, [(.astore_n 2, 1, 2, 0, 0), (.aload_n 2, 1, 2, 0, 0)], .invokevirtual 81, 3, 13, 2),
  (10, [(.iconst 3, 1, 0, 0, 3)], .if_icmp .le 13, 3, 4, 3),
  (14, [], .new 55, 3, 2, 177),
  (24, [(.aload_n 0, 1, 0, 0, 0), (.getfield 39, 3, 4, 7, 4), (.aload_n 2, 1, 2, 0, 0), (.aload_n 2, 1, 2, 0, 0), (.iload_n 1, 1, 1, 0, 0)], .invokevirtual 73, 3, 3, 5),
  (34, [(.aload_n 0, 1, 0, 0, 0), (.getfield 43, 3, 7, 7, 7), (.aload_n 0, 1, 0, 0, 0), (.getfield 18, 3, 1, 7, 1)], .invokevirtual 179, 3, 41, 6),
  (45, [], .ireturn, 1, 0, 0)]
def cd_X7_needInRange : List SG := [(0, [(.iload_n 0, 1, 0, 0, 0), (.iload_n 1, 1, 1, 0, 0)], .if_icmp .lt 8, 3, 2, 1),
  (5, [(.iload_n 0, 1, 0, 0, 0), (.iload_n 2, 1, 2, 0, 0)], .if_icmp .le 13, 3, 3, 2),
  (10, [], .new 183, 3, 1, 185),
  (20, [], .return_, 1, 0, 0)]
def cd_X7_needGroup : List SG := [(0, [(.iload_n 1, 1, 1, 0, 0)], .ifCond .lt 11, 3, 2, 1),
  (4, [(.iload_n 1, 1, 1, 0, 0), (.aload_n 0, 1, 0, 0, 0), (.getfield 52, 3, 5, 7, 5)], .if_icmp .lt 13, 3, 3, 2),
  (12, [], .new 143, 3, 0, 188),
  (22, [], .return_, 1, 0, 0)]
def cd_X7_groupNumber : List SG := [(0, [(.iload_n 1, 1, 1, 0, 0)], .ifCond .lt 11, 3, 2, 1),
  (4, [(.iload_n 1, 1, 1, 0, 0), (.aload_n 0, 1, 0, 0, 0), (.getfield 62, 3, 6, 7, 6)], .if_icmp .lt 13, 3, 3, 2),
  (12, [], .new 143, 3, 0, 190),
  (22, [(.iconst 0, 1, 0, 0, 0), (.istore_n 2, 1, 2, 0, 0)], .nop, 0, 4, 0),
  (24, [(.iload_n 2, 1, 2, 0, 0), (.aload_n 0, 1, 0, 0, 0), (.getfield 52, 3, 5, 7, 5), (.iconst 1, 1, 0, 0, 1), (.isub, 1, 0, 0, 0)], .if_icmp .ge 22, 3, 8, 5),
  (34, [(.aload_n 0, 1, 0, 0, 0), (.getfield 11, 3, 0, 7, 0), (.iload_n 2, 1, 2, 0, 0), (.aaload, 1, 0, 0, 0), (.iload_n 1, 1, 1, 0, 0)], .invokevirtual 192, 3, 2, 6),
  (44, [], .ifCond .ne 9, 3, 8, 7),
  (47, [(.iinc 2 1, 3, 2, 0, 1)], .goto (-26), 3, 4, 0),
  (53, [(.iload_n 2, 1, 2, 0, 0)], .ireturn, 1, 0, 0)]
def cd_X7_groupWith : List SG := [(0, [(.aload_n 0, 1, 0, 0, 0), (.getfield 11, 3, 0, 7, 0), (.aload_n 0, 1, 0, 0, 0), (.iload_n 1, 1, 1, 0, 0)], .invokevirtual 111, 3, 86, 1),
  (9, [(.aaload, 1, 0, 0, 0)], .areturn, 1, 0, 0)]
def cd_X7_groupOfPair : List SG := [(0, [(.aload_n 0, 1, 0, 0, 0), (.iload_n 1, 1, 1, 0, 0)], .invokevirtual 111, 3, 86, 1),
  (5, [(.istore_n 3, 1, 3, 0, 0), (.aload_n 0, 1, 0, 0, 0), (.iload_n 2, 1, 2, 0, 0)], .invokevirtual 111, 3, 86, 2),
  (11, [(.istore 4, 2, 4, 0, 0), (.iload_n 1, 1, 1, 0, 0), (.iload_n 2, 1, 2, 0, 0)], .if_icmp .eq 9, 3, 4, 3),
  (18, [(.iload_n 3, 1, 3, 0, 0), (.iload 4, 2, 4, 0, 0)], .if_icmp .eq 13, 3, 5, 4),
  (24, [], .new 183, 3, 1, 196),
  (34, [(.aload_n 0, 1, 0, 0, 0), (.getfield 11, 3, 0, 7, 0), (.iload_n 3, 1, 3, 0, 0), (.aaload, 1, 0, 0, 0)], .areturn, 1, 0, 0)]
def cd_X8_thrown : List SG := [(0, [(.aload_n 0, 1, 0, 0, 0), (.getfield 50, 3, 16, 8, 16)], .ireturn, 1, 0, 0)]
def cd_X8_in : List SG := [(0, [(.iload_n 0, 1, 0, 0, 0), (.iload_n 1, 1, 1, 0, 0)], .if_icmp .lt 12, 3, 3, 1),
  (5, [(.iload_n 0, 1, 0, 0, 0), (.iload_n 2, 1, 2, 0, 0)], .if_icmp .gt 7, 3, 3, 2),
  (10, [(.iconst 1, 1, 0, 0, 1)], .goto 4, 3, 4, 0),
  (14, [(.iconst 0, 1, 0, 0, 0)], .nop, 0, 4, 0),
  (15, [], .ireturn, 1, 1, 0)]
def cd_X8_goes : List SG := [(0, [(.aload_n 0, 1, 0, 0, 0), (.iload_n 1, 1, 1, 0, 0)], .ifCond .ne 7, 3, 2, 1),
  (5, [(.iconst 1, 1, 0, 0, 1)], .goto 20, 3, 7, 0),
  (9, [(.iload_n 2, 1, 2, 0, 0)], .ifCond .ne 7, 3, 4, 3),
  (13, [(.iconst 2, 1, 0, 0, 2)], .goto 12, 3, 7, 0),
  (17, [(.iload_n 3, 1, 3, 0, 0)], .ifCond .ne 7, 3, 6, 5),
  (21, [(.iconst 3, 1, 0, 0, 3)], .goto 4, 3, 7, 0),
  (25, [(.iconst 0, 1, 0, 0, 0)], .nop, 0, 7, 0),
  (26, [(.putfield 50, 3, 16, 8, 16), (.aload_n 0, 1, 0, 0, 0), (.getfield 50, 3, 16, 8, 16)], .ifCond .ne 7, 3, 9, 8),
  (36, [(.iconst 1, 1, 0, 0, 1)], .goto 4, 3, 10, 0),
  (40, [(.iconst 0, 1, 0, 0, 0)], .nop, 0, 10, 0),
  (41, [], .ireturn, 1, 1, 0)]
def cd_X8_told : List SG := [(0, [(.aload_n 0, 1, 0, 0, 0), (.iconst 0, 1, 0, 0, 0), (.putfield 50, 3, 16, 8, 16), (.iload_n 1, 1, 1, 0, 0)], .ireturn, 1, 0, 0)]
def cd_X8_isTeam : List SG := [(0, [(.iload_n 1, 1, 1, 0, 0), (.iconst 0, 1, 0, 0, 0), (.aload_n 0, 1, 0, 0, 0), (.getfield 53, 3, 1, 8, 1), (.iconst 1, 1, 0, 0, 1), (.isub, 1, 0, 0, 0)], .invokestatic 56, 3, 90, 1),
  (11, [], .ireturn, 1, 1, 0)]
def cd_X8_isGroup : List SG := [(0, [(.iload_n 1, 1, 1, 0, 0), (.iconst 0, 1, 0, 0, 0), (.aload_n 0, 1, 0, 0, 0), (.getfield 60, 3, 0, 8, 0), (.iconst 1, 1, 0, 0, 1), (.isub, 1, 0, 0, 0)], .invokestatic 56, 3, 90, 1),
  (11, [], .ireturn, 1, 1, 0)]
def cd_X8_arePair : List SG := [(0, [(.iload_n 1, 1, 1, 0, 0), (.iload_n 2, 1, 2, 0, 0)], .if_icmp .eq 22, 3, 3, 1),
  (5, [(.aload_n 0, 1, 0, 0, 0), (.getfield 20, 3, 6, 8, 6), (.iload_n 1, 1, 1, 0, 0), (.iaload, 1, 0, 0, 0), (.aload_n 0, 1, 0, 0, 0), (.getfield 20, 3, 6, 8, 6), (.iload_n 2, 1, 2, 0, 0), (.iaload, 1, 0, 0, 0)], .if_icmp .ne 7, 3, 3, 2),
  (20, [(.iconst 1, 1, 0, 0, 1)], .goto 4, 3, 4, 0),
  (24, [(.iconst 0, 1, 0, 0, 0)], .nop, 0, 4, 0),
  (25, [], .ireturn, 1, 1, 0)]
def cd_X8_at : List SG := [(0, [(.iconst 5, 1, 0, 0, 5), (.iload_n 1, 1, 1, 0, 0), (.imul, 1, 0, 0, 0), (.iload_n 2, 1, 2, 0, 0), (.iadd, 1, 0, 0, 0), (.aload_n 0, 1, 0, 0, 0), (.getfield 13, 3, 4, 8, 4), (.aload_n 0, 1, 0, 0, 0), (.getfield 20, 3, 6, 8, 6), (.iload_n 1, 1, 1, 0, 0), (.iaload, 1, 0, 0, 0), (.iaload, 1, 0, 0, 0), (.isub, 1, 0, 0, 0)], .ireturn, 1, 0, 0)]
def cd_X8_isPlayed : List SG := [(0, [(.aload_n 0, 1, 0, 0, 0), (.getfield 32, 3, 10, 8, 10), (.aload_n 0, 1, 0, 0, 0), (.iload_n 1, 1, 1, 0, 0), (.iload_n 2, 1, 2, 0, 0)], .invokevirtual 63, 3, 96, 1),
  (10, [(.iaload, 1, 0, 0, 0), (.iconst (-1), 1, 0, 0, (-1))], .if_icmp .eq 7, 3, 3, 2),
  (15, [(.iconst 1, 1, 0, 0, 1)], .goto 4, 3, 4, 0),
  (19, [(.iconst 0, 1, 0, 0, 0)], .nop, 0, 4, 0),
  (20, [], .ireturn, 1, 1, 0)]
def cd_X8_addGroup : List SG := [(0, [(.aload_n 0, 1, 0, 0, 0), (.iload_n 1, 1, 1, 0, 0), (.iconst 3, 1, 0, 0, 3), (.iconst 5, 1, 0, 0, 5)], .invokestatic 56, 3, 90, 1),
  (7, [(.aload_n 0, 1, 0, 0, 0), (.getfield 60, 3, 0, 8, 0), (.bipush 6, 2, 0, 0, 6)], .if_icmp .ge 7, 3, 3, 2),
  (16, [(.iconst 1, 1, 0, 0, 1)], .goto 4, 3, 4, 0),
  (20, [(.iconst 0, 1, 0, 0, 0)], .nop, 0, 4, 0),
  (21, [(.iconst 1, 1, 0, 0, 1)], .invokevirtual 67, 3, 91, 5),
  (25, [], .ifCond .ne 5, 3, 7, 6),
  (28, [(.iconst 0, 1, 0, 0, 0)], .ireturn, 1, 0, 0),
  (30, [(.aload_n 0, 1, 0, 0, 0), (.getfield 13, 3, 4, 8, 4), (.aload_n 0, 1, 0, 0, 0), (.getfield 60, 3, 0, 8, 0), (.aload_n 0, 1, 0, 0, 0), (.getfield 53, 3, 1, 8, 1), (.iastore, 1, 0, 0, 0), (.aload_n 0, 1, 0, 0, 0), (.getfield 17, 3, 5, 8, 5), (.aload_n 0, 1, 0, 0, 0), (.getfield 60, 3, 0, 8, 0), (.iload_n 1, 1, 1, 0, 0), (.iastore, 1, 0, 0, 0), (.iconst 0, 1, 0, 0, 0), (.istore_n 2, 1, 2, 0, 0)], .nop, 0, 8, 0),
  (55, [(.iload_n 2, 1, 2, 0, 0), (.iload_n 1, 1, 1, 0, 0)], .if_icmp .ge 45, 3, 10, 9),
  (60, [(.aload_n 0, 1, 0, 0, 0), (.getfield 20, 3, 6, 8, 6), (.aload_n 0, 1, 0, 0, 0), (.getfield 53, 3, 1, 8, 1), (.aload_n 0, 1, 0, 0, 0), (.getfield 60, 3, 0, 8, 0), (.iastore, 1, 0, 0, 0), (.aload_n 0, 1, 0, 0, 0), (.getfield 29, 3, 9, 8, 9), (.aload_n 0, 1, 0, 0, 0), (.getfield 53, 3, 1, 8, 1), (.aload_n 0, 1, 0, 0, 0), (.getfield 53, 3, 1, 8, 1), (.iastore, 1, 0, 0, 0), (.aload_n 0, 1, 0, 0, 0), (.dup, 1, 0, 0, 0), (.getfield 53, 3, 1, 8, 1), (.iconst 1, 1, 0, 0, 1), (.iadd, 1, 0, 0, 0), (.putfield 53, 3, 1, 8, 1), (.iinc 2 1, 3, 2, 0, 1)], .goto (-44), 3, 8, 0),
  (102, [(.aload_n 0, 1, 0, 0, 0), (.dup, 1, 0, 0, 0), (.getfield 60, 3, 0, 8, 0), (.iconst 1, 1, 0, 0, 1), (.iadd, 1, 0, 0, 0), (.putfield 60, 3, 0, 8, 0), (.aload_n 0, 1, 0, 0, 0), (.getfield 53, 3, 1, 8, 1), (.iload_n 1, 1, 1, 0, 0), (.isub, 1, 0, 0, 0)], .ireturn, 1, 0, 0)]
def cd_X8_left : List SG := [(0, [(.iconst 0, 1, 0, 0, 0), (.istore_n 2, 1, 2, 0, 0), (.aload_n 0, 1, 0, 0, 0), (.getfield 13, 3, 4, 8, 4), (.iload_n 1, 1, 1, 0, 0), (.iaload, 1, 0, 0, 0), (.istore_n 3, 1, 3, 0, 0)], .nop, 0, 1, 0),
  (9, [(.iload_n 3, 1, 3, 0, 0), (.aload_n 0, 1, 0, 0, 0), (.getfield 13, 3, 4, 8, 4), (.iload_n 1, 1, 1, 0, 0), (.iaload, 1, 0, 0, 0), (.aload_n 0, 1, 0, 0, 0), (.getfield 17, 3, 5, 8, 5), (.iload_n 1, 1, 1, 0, 0), (.iaload, 1, 0, 0, 0), (.iadd, 1, 0, 0, 0)], .if_icmp .ge 47, 3, 10, 2),
  (26, [(.aload_n 0, 1, 0, 0, 0), (.getfield 13, 3, 4, 8, 4), (.iload_n 1, 1, 1, 0, 0), (.iaload, 1, 0, 0, 0), (.istore 4, 2, 4, 0, 0)], .nop, 0, 3, 0),
  (34, [(.iload 4, 2, 4, 0, 0), (.iload_n 3, 1, 3, 0, 0)], .if_icmp .ge 27, 3, 9, 4),
  (40, [(.iload_n 2, 1, 2, 0, 0), (.aload_n 0, 1, 0, 0, 0), (.iload_n 3, 1, 3, 0, 0), (.iload 4, 2, 4, 0, 0)], .invokevirtual 71, 3, 97, 5),
  (48, [], .ifCond .eq 7, 3, 7, 6),
  (51, [(.iconst 0, 1, 0, 0, 0)], .goto 4, 3, 8, 0),
  (55, [(.iconst 1, 1, 0, 0, 1)], .nop, 0, 8, 0),
  (56, [(.iadd, 1, 0, 0, 0), (.istore_n 2, 1, 2, 0, 0), (.iinc 4 1, 3, 4, 0, 1)], .goto (-27), 3, 3, 0),
  (64, [(.iinc 3 1, 3, 3, 0, 1)], .goto (-58), 3, 1, 0),
  (70, [(.iload_n 2, 1, 2, 0, 0)], .ireturn, 1, 0, 0)]
def cd_X8_lays : List SG := [(0, [(.aload_n 0, 1, 0, 0, 0), (.getfield 32, 3, 10, 8, 10), (.aload_n 0, 1, 0, 0, 0), (.iload_n 1, 1, 1, 0, 0), (.iload_n 2, 1, 2, 0, 0)], .invokevirtual 63, 3, 96, 1),
  (10, [(.iload_n 3, 1, 3, 0, 0), (.iastore, 1, 0, 0, 0), (.aload_n 0, 1, 0, 0, 0), (.getfield 32, 3, 10, 8, 10), (.aload_n 0, 1, 0, 0, 0), (.iload_n 2, 1, 2, 0, 0), (.iload_n 1, 1, 1, 0, 0)], .invokevirtual 63, 3, 96, 2),
  (22, [(.iload 4, 2, 4, 0, 0), (.iastore, 1, 0, 0, 0)], .return_, 1, 0, 0)]
def cd_X8_setResult : List SG := [(0, [(.aload_n 0, 1, 0, 0, 0), (.iload_n 1, 1, 1, 0, 0)], .invokevirtual 75, 3, 93, 1),
  (5, [], .ifCond .eq 15, 3, 5, 2),
  (8, [(.aload_n 0, 1, 0, 0, 0), (.iload_n 2, 1, 2, 0, 0)], .invokevirtual 75, 3, 93, 3),
  (13, [], .ifCond .eq 7, 3, 5, 4),
  (16, [(.iconst 1, 1, 0, 0, 1)], .goto 4, 3, 6, 0),
  (20, [(.iconst 0, 1, 0, 0, 0)], .nop, 0, 6, 0),
  (21, [(.istore 5, 2, 5, 0, 0), (.aload_n 0, 1, 0, 0, 0), (.iload 5, 2, 5, 0, 0), (.iload 5, 2, 5, 0, 0)], .ifCond .eq 37, 3, 14, 7),
  (31, [(.aload_n 0, 1, 0, 0, 0), (.iload_n 1, 1, 1, 0, 0), (.iload_n 2, 1, 2, 0, 0)], .invokevirtual 79, 3, 95, 8),
  (37, [], .ifCond .eq 28, 3, 14, 9),
  (40, [(.iload_n 3, 1, 3, 0, 0), (.iconst 0, 1, 0, 0, 0), (.bipush 20, 2, 0, 0, 20)], .invokestatic 56, 3, 90, 10),
  (47, [], .ifCond .eq 18, 3, 14, 11),
  (50, [(.iload 4, 2, 4, 0, 0), (.iconst 0, 1, 0, 0, 0), (.bipush 20, 2, 0, 0, 20)], .invokestatic 56, 3, 90, 12),
  (58, [], .ifCond .eq 7, 3, 14, 13),
  (61, [(.iconst 1, 1, 0, 0, 1)], .goto 4, 3, 15, 0),
  (65, [(.iconst 0, 1, 0, 0, 0)], .nop, 0, 15, 0),
  (66, [(.iconst 1, 1, 0, 0, 1)], .invokevirtual 67, 3, 91, 16),
  (70, [], .ifCond .ne 5, 3, 18, 17),
  (73, [(.iconst 0, 1, 0, 0, 0)], .ireturn, 1, 0, 0),
  (75, [(.aload_n 0, 1, 0, 0, 0), (.iload_n 1, 1, 1, 0, 0), (.iload_n 2, 1, 2, 0, 0), (.iload_n 3, 1, 3, 0, 0), (.iload 4, 2, 4, 0, 0)], .invokevirtual 82, 3, 100, 19),
  (84, [(.aload_n 0, 1, 0, 0, 0), (.aload_n 0, 1, 0, 0, 0), (.getfield 20, 3, 6, 8, 6), (.iload_n 1, 1, 1, 0, 0), (.iaload, 1, 0, 0, 0)], .invokevirtual 86, 3, 99, 20),
  (94, [], .ireturn, 1, 0, 0)]
def cd_X8_strike : List SG := [(0, [(.aload_n 0, 1, 0, 0, 0), (.iload_n 1, 1, 1, 0, 0)], .invokevirtual 75, 3, 93, 1),
  (5, [], .ifCond .eq 15, 3, 5, 2),
  (8, [(.aload_n 0, 1, 0, 0, 0), (.iload_n 2, 1, 2, 0, 0)], .invokevirtual 75, 3, 93, 3),
  (13, [], .ifCond .eq 7, 3, 5, 4),
  (16, [(.iconst 1, 1, 0, 0, 1)], .goto 4, 3, 6, 0),
  (20, [(.iconst 0, 1, 0, 0, 0)], .nop, 0, 6, 0),
  (21, [(.istore_n 3, 1, 3, 0, 0), (.iload_n 3, 1, 3, 0, 0)], .ifCond .eq 16, 3, 10, 7),
  (26, [(.aload_n 0, 1, 0, 0, 0), (.iload_n 1, 1, 1, 0, 0), (.iload_n 2, 1, 2, 0, 0)], .invokevirtual 79, 3, 95, 8),
  (32, [], .ifCond .eq 7, 3, 10, 9),
  (35, [(.iconst 1, 1, 0, 0, 1)], .goto 4, 3, 11, 0),
  (39, [(.iconst 0, 1, 0, 0, 0)], .nop, 0, 11, 0),
  (40, [(.istore 4, 2, 4, 0, 0), (.aload_n 0, 1, 0, 0, 0), (.iload_n 3, 1, 3, 0, 0), (.iload 4, 2, 4, 0, 0), (.iload 4, 2, 4, 0, 0)], .ifCond .eq 16, 3, 15, 12),
  (51, [(.aload_n 0, 1, 0, 0, 0), (.iload_n 1, 1, 1, 0, 0), (.iload_n 2, 1, 2, 0, 0)], .invokevirtual 71, 3, 97, 13),
  (57, [], .ifCond .eq 7, 3, 15, 14),
  (60, [(.iconst 1, 1, 0, 0, 1)], .goto 4, 3, 16, 0),
  (64, [(.iconst 0, 1, 0, 0, 0)], .nop, 0, 16, 0),
  (65, [], .invokevirtual 67, 3, 91, 17),
  (68, [], .ifCond .ne 5, 3, 19, 18),
  (71, [(.iconst 0, 1, 0, 0, 0)], .ireturn, 1, 0, 0),
  (73, [(.aload_n 0, 1, 0, 0, 0), (.iload_n 1, 1, 1, 0, 0), (.iload_n 2, 1, 2, 0, 0), (.iconst (-1), 1, 0, 0, (-1)), (.iconst (-1), 1, 0, 0, (-1))], .invokevirtual 82, 3, 100, 20),
  (81, [(.aload_n 0, 1, 0, 0, 0), (.aload_n 0, 1, 0, 0, 0), (.getfield 20, 3, 6, 8, 6), (.iload_n 1, 1, 1, 0, 0), (.iaload, 1, 0, 0, 0)], .invokevirtual 86, 3, 99, 21),
  (91, [], .ireturn, 1, 0, 0)]
def cd_X8_takeAway : List SG := [(0, [(.aload_n 0, 1, 0, 0, 0), (.aload_n 0, 1, 0, 0, 0), (.iload_n 1, 1, 1, 0, 0)], .invokevirtual 75, 3, 93, 1),
  (6, [(.iload_n 2, 1, 2, 0, 0), (.iconst 0, 1, 0, 0, 0), (.bipush 20, 2, 0, 0, 20)], .invokestatic 56, 3, 90, 2),
  (13, [(.iconst 1, 1, 0, 0, 1)], .invokevirtual 67, 3, 91, 3),
  (17, [], .ifCond .ne 5, 3, 5, 4),
  (20, [(.iconst 0, 1, 0, 0, 0)], .ireturn, 1, 0, 0),
  (22, [(.aload_n 0, 1, 0, 0, 0), (.getfield 23, 3, 7, 8, 7), (.iload_n 1, 1, 1, 0, 0), (.iaload, 1, 0, 0, 0), (.istore_n 3, 1, 3, 0, 0), (.aload_n 0, 1, 0, 0, 0), (.getfield 23, 3, 7, 8, 7), (.iload_n 1, 1, 1, 0, 0), (.iload_n 2, 1, 2, 0, 0), (.iastore, 1, 0, 0, 0), (.iload_n 3, 1, 3, 0, 0)], .ireturn, 1, 0, 0)]
def cd_X8_setCards : List SG := [(0, [(.aload_n 0, 1, 0, 0, 0), (.aload_n 0, 1, 0, 0, 0), (.iload_n 1, 1, 1, 0, 0)], .invokevirtual 75, 3, 93, 1),
  (6, [(.iload_n 2, 1, 2, 0, 0), (.iconst 0, 1, 0, 0, 0), (.bipush 50, 2, 0, 0, 50)], .invokestatic 56, 3, 90, 2),
  (13, [(.iconst 1, 1, 0, 0, 1)], .invokevirtual 67, 3, 91, 3),
  (17, [], .ifCond .ne 5, 3, 5, 4),
  (20, [(.iconst 0, 1, 0, 0, 0)], .ireturn, 1, 0, 0),
  (22, [(.aload_n 0, 1, 0, 0, 0), (.getfield 26, 3, 8, 8, 8), (.iload_n 1, 1, 1, 0, 0), (.iaload, 1, 0, 0, 0), (.istore_n 3, 1, 3, 0, 0), (.aload_n 0, 1, 0, 0, 0), (.getfield 26, 3, 8, 8, 8), (.iload_n 1, 1, 1, 0, 0), (.iload_n 2, 1, 2, 0, 0), (.iastore, 1, 0, 0, 0), (.iload_n 3, 1, 3, 0, 0)], .ireturn, 1, 0, 0)]
def cd_X8_setLot : List SG := [(0, [(.aload_n 0, 1, 0, 0, 0), (.aload_n 0, 1, 0, 0, 0), (.iload_n 1, 1, 1, 0, 0)], .invokevirtual 75, 3, 93, 1),
  (6, [(.iload_n 2, 1, 2, 0, 0), (.iconst 0, 1, 0, 0, 0), (.bipush 99, 2, 0, 0, 99)], .invokestatic 56, 3, 90, 2),
  (13, [(.iconst 1, 1, 0, 0, 1)], .invokevirtual 67, 3, 91, 3),
  (17, [], .ifCond .ne 5, 3, 5, 4),
  (20, [(.iconst 0, 1, 0, 0, 0)], .ireturn, 1, 0, 0),
  (22, [(.aload_n 0, 1, 0, 0, 0), (.getfield 29, 3, 9, 8, 9), (.iload_n 1, 1, 1, 0, 0), (.iaload, 1, 0, 0, 0), (.istore_n 3, 1, 3, 0, 0), (.aload_n 0, 1, 0, 0, 0), (.getfield 29, 3, 9, 8, 9), (.iload_n 1, 1, 1, 0, 0), (.iload_n 2, 1, 2, 0, 0), (.iastore, 1, 0, 0, 0), (.iload_n 3, 1, 3, 0, 0)], .ireturn, 1, 0, 0)]
def cd_X8_setThrough : List SG := [(0, [(.aload_n 0, 1, 0, 0, 0), (.iload_n 1, 1, 1, 0, 0), (.iconst 1, 1, 0, 0, 1), (.iconst 2, 1, 0, 0, 2)], .invokestatic 56, 3, 90, 1),
  (7, [], .ifCond .eq 17, 3, 5, 2),
  (10, [(.iload_n 2, 1, 2, 0, 0), (.iconst 0, 1, 0, 0, 0), (.bipush 6, 2, 0, 0, 6)], .invokestatic 56, 3, 90, 3),
  (17, [], .ifCond .eq 7, 3, 5, 4),
  (20, [(.iconst 1, 1, 0, 0, 1)], .goto 4, 3, 6, 0),
  (24, [(.iconst 0, 1, 0, 0, 0)], .nop, 0, 6, 0),
  (25, [(.iconst 1, 1, 0, 0, 1), (.iconst 1, 1, 0, 0, 1)], .invokevirtual 67, 3, 91, 7),
  (30, [], .ifCond .eq 13, 3, 9, 8),
  (33, [(.aload_n 0, 1, 0, 0, 0), (.iload_n 1, 1, 1, 0, 0), (.putfield 7, 3, 2, 8, 2), (.aload_n 0, 1, 0, 0, 0), (.iload_n 2, 1, 2, 0, 0), (.putfield 90, 3, 3, 8, 3)], .nop, 0, 9, 0),
  (43, [], .return_, 1, 0, 0)]
def cd_X8_pointsIn : List SG := [(0, [(.aload_n 0, 1, 0, 0, 0), (.getfield 32, 3, 10, 8, 10), (.aload_n 0, 1, 0, 0, 0), (.iload_n 1, 1, 1, 0, 0), (.iload_n 2, 1, 2, 0, 0)], .invokevirtual 63, 3, 96, 1),
  (10, [(.iaload, 1, 0, 0, 0), (.istore_n 3, 1, 3, 0, 0), (.aload_n 0, 1, 0, 0, 0), (.getfield 32, 3, 10, 8, 10), (.aload_n 0, 1, 0, 0, 0), (.iload_n 2, 1, 2, 0, 0), (.iload_n 1, 1, 1, 0, 0)], .invokevirtual 63, 3, 96, 2),
  (22, [(.iaload, 1, 0, 0, 0), (.istore 4, 2, 4, 0, 0), (.iload_n 3, 1, 3, 0, 0), (.iconst (-1), 1, 0, 0, (-1))], .if_icmp .ne 7, 3, 4, 3),
  (30, [(.iconst 0, 1, 0, 0, 0)], .goto 24, 3, 9, 0),
  (34, [(.iload_n 3, 1, 3, 0, 0), (.iload 4, 2, 4, 0, 0)], .if_icmp .le 7, 3, 6, 5),
  (40, [(.iconst 3, 1, 0, 0, 3)], .goto 14, 3, 9, 0),
  (44, [(.iload_n 3, 1, 3, 0, 0), (.iload 4, 2, 4, 0, 0)], .if_icmp .ne 7, 3, 8, 7),
  (50, [(.iconst 1, 1, 0, 0, 1)], .goto 4, 3, 9, 0),
  (54, [(.iconst 0, 1, 0, 0, 0)], .nop, 0, 9, 0),
  (55, [], .ireturn, 1, 0, 0)]
def cd_X8_sums : List SG := [(0, [(.iconst 0, 1, 0, 0, 0), (.istore 4, 2, 4, 0, 0), (.aload_n 0, 1, 0, 0, 0), (.getfield 13, 3, 4, 8, 4), (.aload_n 0, 1, 0, 0, 0), (.getfield 20, 3, 6, 8, 6), (.iload_n 1, 1, 1, 0, 0), (.iaload, 1, 0, 0, 0), (.iaload, 1, 0, 0, 0), (.istore 5, 2, 5, 0, 0), (.iconst 0, 1, 0, 0, 0), (.istore 6, 2, 6, 0, 0)], .nop, 0, 1, 0),
  (19, [(.iload 6, 2, 6, 0, 0), (.aload_n 0, 1, 0, 0, 0), (.getfield 17, 3, 5, 8, 5), (.aload_n 0, 1, 0, 0, 0), (.getfield 20, 3, 6, 8, 6), (.iload_n 1, 1, 1, 0, 0), (.iaload, 1, 0, 0, 0), (.iaload, 1, 0, 0, 0)], .if_icmp .ge 100, 3, 16, 2),
  (35, [(.iload 5, 2, 5, 0, 0), (.iload 6, 2, 6, 0, 0), (.iadd, 1, 0, 0, 0), (.istore 7, 2, 7, 0, 0), (.iload 7, 2, 7, 0, 0), (.iload_n 1, 1, 1, 0, 0)], .if_icmp .eq 81, 3, 15, 3),
  (48, [(.iload_n 3, 1, 3, 0, 0), (.iload 6, 2, 6, 0, 0), (.ishr, 1, 0, 0, 0), (.iconst 1, 1, 0, 0, 1), (.iand, 1, 0, 0, 0), (.iconst 1, 1, 0, 0, 1)], .if_icmp .ne 71, 3, 15, 4),
  (58, [(.aload_n 0, 1, 0, 0, 0), (.iload_n 1, 1, 1, 0, 0), (.iload 7, 2, 7, 0, 0)], .invokevirtual 71, 3, 97, 5),
  (65, [], .ifCond .eq 61, 3, 15, 6),
  (68, [(.aload_n 0, 1, 0, 0, 0), (.getfield 32, 3, 10, 8, 10), (.aload_n 0, 1, 0, 0, 0), (.iload_n 1, 1, 1, 0, 0), (.iload 7, 2, 7, 0, 0)], .invokevirtual 63, 3, 96, 7),
  (79, [(.iaload, 1, 0, 0, 0), (.istore 8, 2, 8, 0, 0), (.iload 4, 2, 4, 0, 0), (.iload_n 2, 1, 2, 0, 0)], .ifCond .ne 13, 3, 10, 8),
  (88, [(.aload_n 0, 1, 0, 0, 0), (.iload_n 1, 1, 1, 0, 0), (.iload 7, 2, 7, 0, 0)], .invokevirtual 93, 3, 107, 9),
  (95, [], .goto 28, 3, 14, 0),
  (98, [(.iload_n 2, 1, 2, 0, 0), (.iconst 1, 1, 0, 0, 1)], .if_icmp .ne 21, 3, 13, 11),
  (103, [(.iload 8, 2, 8, 0, 0), (.aload_n 0, 1, 0, 0, 0), (.getfield 32, 3, 10, 8, 10), (.aload_n 0, 1, 0, 0, 0), (.iload 7, 2, 7, 0, 0), (.iload_n 1, 1, 1, 0, 0)], .invokevirtual 63, 3, 96, 12),
  (116, [(.iaload, 1, 0, 0, 0), (.isub, 1, 0, 0, 0)], .goto 5, 3, 14, 0),
  (121, [(.iload 8, 2, 8, 0, 0)], .nop, 0, 14, 0),
  (123, [(.iadd, 1, 0, 0, 0), (.istore 4, 2, 4, 0, 0)], .nop, 0, 15, 0),
  (126, [(.iinc 6 1, 3, 6, 0, 1)], .goto (-110), 3, 1, 0),
  (132, [(.iload 4, 2, 4, 0, 0)], .ireturn, 1, 0, 0)]
def cd_X8_pointsOf : List SG := [(0, [(.aload_n 0, 1, 0, 0, 0), (.iload_n 1, 1, 1, 0, 0), (.iconst 0, 1, 0, 0, 0), (.bipush 31, 2, 0, 0, 31)], .invokevirtual 96, 3, 108, 1),
  (8, [(.aload_n 0, 1, 0, 0, 0), (.getfield 23, 3, 7, 8, 7), (.iload_n 1, 1, 1, 0, 0), (.iaload, 1, 0, 0, 0), (.isub, 1, 0, 0, 0)], .ireturn, 1, 0, 0)]
def cd_X8_finalRule : List SG := [(0, [(.aload_n 0, 1, 0, 0, 0), (.iload_n 1, 1, 1, 0, 0), (.iconst 1, 1, 0, 0, 1), (.bipush 31, 2, 0, 0, 31)], .invokevirtual 96, 3, 108, 1),
  (8, [(.aload_n 0, 1, 0, 0, 0), (.iload_n 2, 1, 2, 0, 0), (.iconst 1, 1, 0, 0, 1), (.bipush 31, 2, 0, 0, 31)], .invokevirtual 96, 3, 108, 2),
  (16, [(.isub, 1, 0, 0, 0), (.istore_n 3, 1, 3, 0, 0), (.aload_n 0, 1, 0, 0, 0), (.iload_n 1, 1, 1, 0, 0), (.iconst 2, 1, 0, 0, 2), (.bipush 31, 2, 0, 0, 31)], .invokevirtual 96, 3, 108, 3),
  (26, [(.aload_n 0, 1, 0, 0, 0), (.iload_n 2, 1, 2, 0, 0), (.iconst 2, 1, 0, 0, 2), (.bipush 31, 2, 0, 0, 31)], .invokevirtual 96, 3, 108, 4),
  (34, [(.isub, 1, 0, 0, 0), (.istore 4, 2, 4, 0, 0), (.aload_n 0, 1, 0, 0, 0), (.getfield 26, 3, 8, 8, 8), (.iload_n 2, 1, 2, 0, 0), (.iaload, 1, 0, 0, 0), (.aload_n 0, 1, 0, 0, 0), (.getfield 26, 3, 8, 8, 8), (.iload_n 1, 1, 1, 0, 0), (.iaload, 1, 0, 0, 0), (.isub, 1, 0, 0, 0), (.istore 5, 2, 5, 0, 0), (.aload_n 0, 1, 0, 0, 0), (.getfield 29, 3, 9, 8, 9), (.iload_n 2, 1, 2, 0, 0), (.iaload, 1, 0, 0, 0), (.aload_n 0, 1, 0, 0, 0), (.getfield 29, 3, 9, 8, 9), (.iload_n 1, 1, 1, 0, 0), (.iaload, 1, 0, 0, 0)], .if_icmp .eq 19, 3, 6, 5),
  (67, [(.aload_n 0, 1, 0, 0, 0), (.getfield 29, 3, 9, 8, 9), (.iload_n 2, 1, 2, 0, 0), (.iaload, 1, 0, 0, 0), (.aload_n 0, 1, 0, 0, 0), (.getfield 29, 3, 9, 8, 9), (.iload_n 1, 1, 1, 0, 0), (.iaload, 1, 0, 0, 0), (.isub, 1, 0, 0, 0)], .goto 6, 3, 7, 0),
  (83, [(.iload_n 2, 1, 2, 0, 0), (.iload_n 1, 1, 1, 0, 0), (.isub, 1, 0, 0, 0)], .nop, 0, 7, 0),
  (86, [(.istore 6, 2, 6, 0, 0), (.iload_n 3, 1, 3, 0, 0)], .ifCond .eq 7, 3, 9, 8),
  (92, [(.iconst 4, 1, 0, 0, 4)], .goto 24, 3, 14, 0),
  (96, [(.iload 4, 2, 4, 0, 0)], .ifCond .eq 7, 3, 11, 10),
  (101, [(.iconst 5, 1, 0, 0, 5)], .goto 15, 3, 14, 0),
  (105, [(.iload 5, 2, 5, 0, 0)], .ifCond .eq 8, 3, 13, 12),
  (110, [(.bipush 6, 2, 0, 0, 6)], .goto 5, 3, 14, 0),
  (115, [(.bipush 7, 2, 0, 0, 7)], .nop, 0, 14, 0),
  (117, [(.istore 7, 2, 7, 0, 0), (.iload 7, 2, 7, 0, 0), (.iconst 4, 1, 0, 0, 4)], .if_icmp .ne 7, 3, 16, 15),
  (125, [(.iload_n 3, 1, 3, 0, 0)], .goto 28, 3, 21, 0),
  (129, [(.iload 7, 2, 7, 0, 0), (.iconst 5, 1, 0, 0, 5)], .if_icmp .ne 8, 3, 18, 17),
  (135, [(.iload 4, 2, 4, 0, 0)], .goto 17, 3, 21, 0),
  (140, [(.iload 7, 2, 7, 0, 0), (.bipush 6, 2, 0, 0, 6)], .if_icmp .ne 8, 3, 20, 19),
  (147, [(.iload 5, 2, 5, 0, 0)], .goto 5, 3, 21, 0),
  (152, [(.iload 6, 2, 6, 0, 0)], .nop, 0, 21, 0),
  (154, [(.istore 8, 2, 8, 0, 0), (.iload 8, 2, 8, 0, 0)], .ifCond .le 8, 3, 23, 22),
  (161, [(.iload 7, 2, 7, 0, 0)], .goto 6, 3, 24, 0),
  (166, [(.iload 7, 2, 7, 0, 0), (.ineg, 1, 0, 0, 0)], .nop, 0, 24, 0),
  (169, [], .ireturn, 1, 0, 0)]
def cd_X8_tiedRule : List SG := [(0, [(.iconst 0, 1, 0, 0, 0), (.istore_n 3, 1, 3, 0, 0), (.iconst 2, 1, 0, 0, 2), (.istore 4, 2, 4, 0, 0)], .nop, 0, 1, 0),
  (5, [(.iload 4, 2, 4, 0, 0)], .ifCond .lt 61, 3, 8, 2),
  (10, [(.aload_n 0, 1, 0, 0, 0), (.getfield 44, 3, 14, 8, 14), (.iconst 3, 1, 0, 0, 3), (.iload_n 1, 1, 1, 0, 0), (.imul, 1, 0, 0, 0), (.iload 4, 2, 4, 0, 0), (.iadd, 1, 0, 0, 0), (.iaload, 1, 0, 0, 0), (.aload_n 0, 1, 0, 0, 0), (.getfield 44, 3, 14, 8, 14), (.iconst 3, 1, 0, 0, 3), (.iload_n 2, 1, 2, 0, 0), (.imul, 1, 0, 0, 0), (.iload 4, 2, 4, 0, 0), (.iadd, 1, 0, 0, 0), (.iaload, 1, 0, 0, 0), (.isub, 1, 0, 0, 0), (.istore 5, 2, 5, 0, 0), (.iload 5, 2, 5, 0, 0)], .ifCond .le 10, 3, 4, 3),
  (40, [(.iload 4, 2, 4, 0, 0), (.iconst 1, 1, 0, 0, 1), (.iadd, 1, 0, 0, 0)], .goto 17, 3, 7, 0),
  (47, [(.iload 5, 2, 5, 0, 0)], .ifCond .ge 11, 3, 6, 5),
  (52, [(.iload 4, 2, 4, 0, 0), (.iconst 1, 1, 0, 0, 1), (.iadd, 1, 0, 0, 0), (.ineg, 1, 0, 0, 0)], .goto 4, 3, 7, 0),
  (60, [(.iload_n 3, 1, 3, 0, 0)], .nop, 0, 7, 0),
  (61, [(.istore_n 3, 1, 3, 0, 0), (.iinc 4 (-1), 3, 4, 0, (-1))], .goto (-60), 3, 1, 0),
  (68, [(.iload_n 3, 1, 3, 0, 0)], .ireturn, 1, 0, 0)]
def cd_X8_splits : List SG := [(0, [(.iconst 0, 1, 0, 0, 0), (.istore_n 3, 1, 3, 0, 0), (.iconst 0, 1, 0, 0, 0), (.istore 4, 2, 4, 0, 0), (.iconst 0, 1, 0, 0, 0), (.istore 5, 2, 5, 0, 0)], .nop, 0, 1, 0),
  (8, [(.iload 5, 2, 5, 0, 0), (.aload_n 0, 1, 0, 0, 0), (.getfield 17, 3, 5, 8, 5), (.iload_n 1, 1, 1, 0, 0), (.iaload, 1, 0, 0, 0)], .if_icmp .ge 52, 3, 9, 2),
  (19, [(.iload_n 3, 1, 3, 0, 0), (.aload_n 0, 1, 0, 0, 0), (.getfield 35, 3, 11, 8, 11), (.iload 5, 2, 5, 0, 0), (.iaload, 1, 0, 0, 0), (.iload_n 2, 1, 2, 0, 0)], .if_icmp .ne 10, 3, 4, 3),
  (31, [(.iconst 1, 1, 0, 0, 1), (.iload 5, 2, 5, 0, 0), (.ishl, 1, 0, 0, 0)], .goto 4, 3, 5, 0),
  (38, [(.iconst 0, 1, 0, 0, 0)], .nop, 0, 5, 0),
  (39, [(.ior, 1, 0, 0, 0), (.istore_n 3, 1, 3, 0, 0), (.iload 4, 2, 4, 0, 0), (.aload_n 0, 1, 0, 0, 0), (.getfield 35, 3, 11, 8, 11), (.iload 5, 2, 5, 0, 0), (.iaload, 1, 0, 0, 0), (.iload_n 2, 1, 2, 0, 0)], .if_icmp .ne 7, 3, 7, 6),
  (54, [(.iconst 1, 1, 0, 0, 1)], .goto 4, 3, 8, 0),
  (58, [(.iconst 0, 1, 0, 0, 0)], .nop, 0, 8, 0),
  (59, [(.iadd, 1, 0, 0, 0), (.istore 4, 2, 4, 0, 0), (.iinc 5 1, 3, 5, 0, 1)], .goto (-57), 3, 1, 0),
  (68, [(.iconst 0, 1, 0, 0, 0), (.istore 5, 2, 5, 0, 0)], .nop, 0, 10, 0),
  (71, [(.iload 5, 2, 5, 0, 0), (.iconst 3, 1, 0, 0, 3), (.aload_n 0, 1, 0, 0, 0), (.getfield 17, 3, 5, 8, 5), (.iload_n 1, 1, 1, 0, 0), (.iaload, 1, 0, 0, 0), (.imul, 1, 0, 0, 0)], .if_icmp .ge 36, 3, 13, 11),
  (84, [(.aload_n 0, 1, 0, 0, 0), (.getfield 44, 3, 14, 8, 14), (.iload 5, 2, 5, 0, 0), (.aload_n 0, 1, 0, 0, 0), (.aload_n 0, 1, 0, 0, 0), (.getfield 13, 3, 4, 8, 4), (.iload_n 1, 1, 1, 0, 0), (.iaload, 1, 0, 0, 0), (.iload 5, 2, 5, 0, 0), (.iconst 3, 1, 0, 0, 3), (.idiv, 1, 0, 0, 0), (.iadd, 1, 0, 0, 0), (.iload 5, 2, 5, 0, 0), (.iconst 3, 1, 0, 0, 3), (.irem, 1, 0, 0, 0), (.iload_n 3, 1, 3, 0, 0)], .invokevirtual 96, 3, 108, 12),
  (110, [(.iastore, 1, 0, 0, 0), (.iinc 5 1, 3, 5, 0, 1)], .goto (-43), 3, 10, 0),
  (117, [(.iconst 1, 1, 0, 0, 1), (.istore 5, 2, 5, 0, 0), (.iconst 0, 1, 0, 0, 0), (.istore 6, 2, 6, 0, 0)], .nop, 0, 14, 0),
  (123, [(.iload 6, 2, 6, 0, 0), (.aload_n 0, 1, 0, 0, 0), (.getfield 17, 3, 5, 8, 5), (.iload_n 1, 1, 1, 0, 0), (.iaload, 1, 0, 0, 0), (.aload_n 0, 1, 0, 0, 0), (.getfield 17, 3, 5, 8, 5), (.iload_n 1, 1, 1, 0, 0), (.iaload, 1, 0, 0, 0), (.imul, 1, 0, 0, 0)], .if_icmp .ge 92, 3, 26, 15),
  (141, [(.iload_n 3, 1, 3, 0, 0), (.iload 6, 2, 6, 0, 0), (.aload_n 0, 1, 0, 0, 0), (.getfield 17, 3, 5, 8, 5), (.iload_n 1, 1, 1, 0, 0), (.iaload, 1, 0, 0, 0), (.idiv, 1, 0, 0, 0), (.ishr, 1, 0, 0, 0), (.iconst 1, 1, 0, 0, 1), (.iand, 1, 0, 0, 0), (.iconst 1, 1, 0, 0, 1)], .if_icmp .ne 24, 3, 18, 16),
  (158, [(.iload_n 3, 1, 3, 0, 0), (.iload 6, 2, 6, 0, 0), (.aload_n 0, 1, 0, 0, 0), (.getfield 17, 3, 5, 8, 5), (.iload_n 1, 1, 1, 0, 0), (.iaload, 1, 0, 0, 0), (.irem, 1, 0, 0, 0), (.ishr, 1, 0, 0, 0), (.iconst 1, 1, 0, 0, 1), (.iand, 1, 0, 0, 0), (.iconst 1, 1, 0, 0, 1)], .if_icmp .ne 7, 3, 18, 17),
  (175, [(.iconst 1, 1, 0, 0, 1)], .goto 4, 3, 19, 0),
  (179, [(.iconst 0, 1, 0, 0, 0)], .nop, 0, 19, 0),
  (180, [(.istore 7, 2, 7, 0, 0), (.iload 5, 2, 5, 0, 0)], .ifCond .eq 37, 3, 24, 20),
  (187, [(.iload 7, 2, 7, 0, 0)], .ifCond .eq 28, 3, 23, 21),
  (192, [(.aload_n 0, 1, 0, 0, 0), (.iload 6, 2, 6, 0, 0), (.aload_n 0, 1, 0, 0, 0), (.getfield 17, 3, 5, 8, 5), (.iload_n 1, 1, 1, 0, 0), (.iaload, 1, 0, 0, 0), (.idiv, 1, 0, 0, 0), (.iload 6, 2, 6, 0, 0), (.aload_n 0, 1, 0, 0, 0), (.getfield 17, 3, 5, 8, 5), (.iload_n 1, 1, 1, 0, 0), (.iaload, 1, 0, 0, 0), (.irem, 1, 0, 0, 0)], .invokevirtual 100, 3, 111, 22),
  (214, [], .ifCond .ne 7, 3, 24, 23),
  (217, [(.iconst 1, 1, 0, 0, 1)], .goto 4, 3, 25, 0),
  (221, [(.iconst 0, 1, 0, 0, 0)], .nop, 0, 25, 0),
  (222, [(.istore 5, 2, 5, 0, 0), (.iinc 6 1, 3, 6, 0, 1)], .goto (-104), 3, 14, 0),
  (230, [(.iconst 0, 1, 0, 0, 0), (.istore 6, 2, 6, 0, 0)], .nop, 0, 27, 0),
  (233, [(.iload 6, 2, 6, 0, 0), (.aload_n 0, 1, 0, 0, 0), (.getfield 17, 3, 5, 8, 5), (.iload_n 1, 1, 1, 0, 0), (.iaload, 1, 0, 0, 0)], .if_icmp .ge 191, 3, 51, 28),
  (244, [(.aload_n 0, 1, 0, 0, 0), (.getfield 38, 3, 12, 8, 12), (.iload 6, 2, 6, 0, 0), (.aload_n 0, 1, 0, 0, 0), (.getfield 35, 3, 11, 8, 11), (.iload 6, 2, 6, 0, 0), (.iaload, 1, 0, 0, 0), (.iastore, 1, 0, 0, 0), (.iconst 0, 1, 0, 0, 0), (.istore 7, 2, 7, 0, 0)], .nop, 0, 29, 0),
  (261, [(.iload 7, 2, 7, 0, 0), (.aload_n 0, 1, 0, 0, 0), (.getfield 17, 3, 5, 8, 5), (.iload_n 1, 1, 1, 0, 0), (.iaload, 1, 0, 0, 0)], .if_icmp .ge 157, 3, 50, 30),
  (272, [(.iload 7, 2, 7, 0, 0), (.iload 6, 2, 6, 0, 0)], .if_icmp .eq 27, 3, 34, 31),
  (279, [(.iload_n 3, 1, 3, 0, 0), (.iload 6, 2, 6, 0, 0), (.ishr, 1, 0, 0, 0), (.iconst 1, 1, 0, 0, 1), (.iand, 1, 0, 0, 0), (.iconst 1, 1, 0, 0, 1)], .if_icmp .ne 17, 3, 34, 32),
  (289, [(.iload_n 3, 1, 3, 0, 0), (.iload 7, 2, 7, 0, 0), (.ishr, 1, 0, 0, 0), (.iconst 1, 1, 0, 0, 1), (.iand, 1, 0, 0, 0), (.iconst 1, 1, 0, 0, 1)], .if_icmp .ne 7, 3, 34, 33),
  (299, [(.iconst 1, 1, 0, 0, 1)], .goto 4, 3, 35, 0),
  (303, [(.iconst 0, 1, 0, 0, 0)], .nop, 0, 35, 0),
  (304, [(.istore 8, 2, 8, 0, 0), (.iload 8, 2, 8, 0, 0)], .ifCond .ne 7, 3, 37, 36),
  (311, [(.iconst 0, 1, 0, 0, 0)], .goto 41, 3, 41, 0),
  (315, [(.iload 5, 2, 5, 0, 0)], .ifCond .eq 28, 3, 40, 38),
  (320, [(.aload_n 0, 1, 0, 0, 0), (.aload_n 0, 1, 0, 0, 0), (.getfield 13, 3, 4, 8, 4), (.iload_n 1, 1, 1, 0, 0), (.iaload, 1, 0, 0, 0), (.iload 6, 2, 6, 0, 0), (.iadd, 1, 0, 0, 0), (.aload_n 0, 1, 0, 0, 0), (.getfield 13, 3, 4, 8, 4), (.iload_n 1, 1, 1, 0, 0), (.iaload, 1, 0, 0, 0), (.iload 7, 2, 7, 0, 0), (.iadd, 1, 0, 0, 0)], .invokevirtual 103, 3, 110, 39),
  (342, [], .goto 11, 3, 41, 0),
  (345, [(.aload_n 0, 1, 0, 0, 0), (.iload 6, 2, 6, 0, 0), (.iload 7, 2, 7, 0, 0)], .invokevirtual 100, 3, 111, 41),
  (353, [(.istore 9, 2, 9, 0, 0), (.aload_n 0, 1, 0, 0, 0), (.getfield 38, 3, 12, 8, 12), (.iload 6, 2, 6, 0, 0), (.dup2, 1, 0, 0, 0), (.iaload, 1, 0, 0, 0), (.iload 9, 2, 9, 0, 0)], .ifCond .ge 7, 3, 43, 42),
  (368, [(.iconst 1, 1, 0, 0, 1)], .goto 4, 3, 44, 0),
  (372, [(.iconst 0, 1, 0, 0, 0)], .nop, 0, 44, 0),
  (373, [(.iadd, 1, 0, 0, 0), (.iastore, 1, 0, 0, 0), (.aload_n 0, 1, 0, 0, 0), (.getfield 41, 3, 13, 8, 13), (.iconst 5, 1, 0, 0, 5), (.iload 6, 2, 6, 0, 0), (.imul, 1, 0, 0, 0), (.iload 7, 2, 7, 0, 0), (.iadd, 1, 0, 0, 0), (.iload 9, 2, 9, 0, 0)], .ifCond .ne 18, 3, 46, 45),
  (391, [(.aload_n 0, 1, 0, 0, 0), (.getfield 41, 3, 13, 8, 13), (.iconst 5, 1, 0, 0, 5), (.iload 6, 2, 6, 0, 0), (.imul, 1, 0, 0, 0), (.iload 7, 2, 7, 0, 0), (.iadd, 1, 0, 0, 0), (.iaload, 1, 0, 0, 0)], .goto 16, 3, 49, 0),
  (406, [(.iload 9, 2, 9, 0, 0)], .ifCond .ge 9, 3, 48, 47),
  (411, [(.iload 9, 2, 9, 0, 0), (.ineg, 1, 0, 0, 0)], .goto 5, 3, 49, 0),
  (417, [(.iload 9, 2, 9, 0, 0)], .nop, 0, 49, 0),
  (419, [(.iastore, 1, 0, 0, 0), (.iinc 7 1, 3, 7, 0, 1)], .goto (-162), 3, 29, 0),
  (426, [(.iinc 6 1, 3, 6, 0, 1)], .goto (-196), 3, 27, 0),
  (432, [(.iconst 0, 1, 0, 0, 0), (.istore 6, 2, 6, 0, 0)], .nop, 0, 52, 0),
  (435, [(.iload 6, 2, 6, 0, 0), (.aload_n 0, 1, 0, 0, 0), (.getfield 17, 3, 5, 8, 5), (.iload_n 1, 1, 1, 0, 0), (.iaload, 1, 0, 0, 0)], .if_icmp .ge 23, 3, 54, 53),
  (446, [(.aload_n 0, 1, 0, 0, 0), (.getfield 35, 3, 11, 8, 11), (.iload 6, 2, 6, 0, 0), (.aload_n 0, 1, 0, 0, 0), (.getfield 38, 3, 12, 8, 12), (.iload 6, 2, 6, 0, 0), (.iaload, 1, 0, 0, 0), (.iastore, 1, 0, 0, 0), (.iinc 6 1, 3, 6, 0, 1)], .goto (-28), 3, 52, 0),
  (466, [(.iload 4, 2, 4, 0, 0), (.iconst 1, 1, 0, 0, 1)], .if_icmp .le 7, 3, 56, 55),
  (472, [(.iconst 1, 1, 0, 0, 1)], .goto 4, 3, 57, 0),
  (476, [(.iconst 0, 1, 0, 0, 0)], .nop, 0, 57, 0),
  (477, [], .ireturn, 1, 1, 0)]
def cd_X8_orders : List SG := [(0, [(.iconst 0, 1, 0, 0, 0), (.istore_n 2, 1, 2, 0, 0)], .nop, 0, 1, 0),
  (2, [(.iload_n 2, 1, 2, 0, 0), (.aload_n 0, 1, 0, 0, 0), (.getfield 17, 3, 5, 8, 5), (.iload_n 1, 1, 1, 0, 0), (.iaload, 1, 0, 0, 0)], .if_icmp .ge 86, 3, 11, 2),
  (12, [(.aload_n 0, 1, 0, 0, 0), (.getfield 35, 3, 11, 8, 11), (.iload_n 2, 1, 2, 0, 0), (.iconst 0, 1, 0, 0, 0), (.iastore, 1, 0, 0, 0), (.iconst 0, 1, 0, 0, 0), (.istore_n 3, 1, 3, 0, 0)], .nop, 0, 3, 0),
  (21, [(.iload_n 3, 1, 3, 0, 0), (.aload_n 0, 1, 0, 0, 0), (.getfield 17, 3, 5, 8, 5), (.iload_n 1, 1, 1, 0, 0), (.iaload, 1, 0, 0, 0)], .if_icmp .ge 61, 3, 10, 4),
  (31, [(.aload_n 0, 1, 0, 0, 0), (.getfield 41, 3, 13, 8, 13), (.iconst 5, 1, 0, 0, 5), (.iload_n 2, 1, 2, 0, 0), (.imul, 1, 0, 0, 0), (.iload_n 3, 1, 3, 0, 0), (.iadd, 1, 0, 0, 0), (.iconst 0, 1, 0, 0, 0), (.iastore, 1, 0, 0, 0), (.aload_n 0, 1, 0, 0, 0), (.getfield 35, 3, 11, 8, 11), (.iload_n 2, 1, 2, 0, 0), (.dup2, 1, 0, 0, 0), (.iaload, 1, 0, 0, 0), (.aload_n 0, 1, 0, 0, 0), (.aload_n 0, 1, 0, 0, 0), (.getfield 13, 3, 4, 8, 4), (.iload_n 1, 1, 1, 0, 0), (.iaload, 1, 0, 0, 0), (.iload_n 3, 1, 3, 0, 0), (.iadd, 1, 0, 0, 0)], .invokevirtual 106, 3, 109, 5),
  (61, [(.aload_n 0, 1, 0, 0, 0), (.aload_n 0, 1, 0, 0, 0), (.getfield 13, 3, 4, 8, 4), (.iload_n 1, 1, 1, 0, 0), (.iaload, 1, 0, 0, 0), (.iload_n 2, 1, 2, 0, 0), (.iadd, 1, 0, 0, 0)], .invokevirtual 106, 3, 109, 6),
  (73, [], .if_icmp .le 7, 3, 8, 7),
  (76, [(.iconst 1, 1, 0, 0, 1)], .goto 4, 3, 9, 0),
  (80, [(.iconst 0, 1, 0, 0, 0)], .nop, 0, 9, 0),
  (81, [(.iadd, 1, 0, 0, 0), (.iastore, 1, 0, 0, 0), (.iinc 3 1, 3, 3, 0, 1)], .goto (-65), 3, 3, 0),
  (89, [(.iinc 2 1, 3, 2, 0, 1)], .goto (-90), 3, 1, 0),
  (95, [(.iconst 1, 1, 0, 0, 1), (.istore_n 2, 1, 2, 0, 0)], .nop, 0, 12, 0),
  (97, [(.iload_n 2, 1, 2, 0, 0)], .ifCond .eq 45, 3, 22, 13),
  (101, [(.iconst 0, 1, 0, 0, 0), (.istore_n 2, 1, 2, 0, 0), (.iconst 0, 1, 0, 0, 0), (.istore_n 3, 1, 3, 0, 0)], .nop, 0, 14, 0),
  (105, [(.iload_n 3, 1, 3, 0, 0), (.aload_n 0, 1, 0, 0, 0), (.getfield 17, 3, 5, 8, 5), (.iload_n 1, 1, 1, 0, 0), (.iaload, 1, 0, 0, 0)], .if_icmp .ge 28, 3, 21, 15),
  (115, [(.aload_n 0, 1, 0, 0, 0), (.iload_n 1, 1, 1, 0, 0), (.iload_n 3, 1, 3, 0, 0)], .invokevirtual 109, 3, 112, 16),
  (121, [], .ifCond .ne 7, 3, 18, 17),
  (124, [(.iload_n 2, 1, 2, 0, 0)], .ifCond .eq 7, 3, 19, 18),
  (128, [(.iconst 1, 1, 0, 0, 1)], .goto 4, 3, 20, 0),
  (132, [(.iconst 0, 1, 0, 0, 0)], .nop, 0, 20, 0),
  (133, [(.istore_n 2, 1, 2, 0, 0), (.iinc 3 1, 3, 3, 0, 1)], .goto (-32), 3, 14, 0),
  (140, [], .goto (-43), 3, 12, 0),
  (143, [], .return_, 1, 0, 0)]
def cd_X8_placeOf : List SG := [(0, [(.aload_n 0, 1, 0, 0, 0), (.aload_n 0, 1, 0, 0, 0), (.getfield 20, 3, 6, 8, 6), (.iload_n 1, 1, 1, 0, 0), (.iaload, 1, 0, 0, 0)], .invokevirtual 112, 3, 113, 1),
  (10, [(.aload_n 0, 1, 0, 0, 0), (.getfield 35, 3, 11, 8, 11), (.iload_n 1, 1, 1, 0, 0), (.aload_n 0, 1, 0, 0, 0), (.getfield 13, 3, 4, 8, 4), (.aload_n 0, 1, 0, 0, 0), (.getfield 20, 3, 6, 8, 6), (.iload_n 1, 1, 1, 0, 0), (.iaload, 1, 0, 0, 0), (.iaload, 1, 0, 0, 0), (.isub, 1, 0, 0, 0), (.iaload, 1, 0, 0, 0)], .ireturn, 1, 0, 0)]
def cd_X8_teamOn : List SG := [(0, [(.aload_n 0, 1, 0, 0, 0), (.iload_n 1, 1, 1, 0, 0)], .invokevirtual 112, 3, 113, 1),
  (5, [(.iconst (-1), 1, 0, 0, (-1)), (.istore_n 3, 1, 3, 0, 0), (.iconst 0, 1, 0, 0, 0), (.istore 4, 2, 4, 0, 0)], .nop, 0, 2, 0),
  (10, [(.iload 4, 2, 4, 0, 0), (.aload_n 0, 1, 0, 0, 0), (.getfield 17, 3, 5, 8, 5), (.iload_n 1, 1, 1, 0, 0), (.iaload, 1, 0, 0, 0)], .if_icmp .ge 34, 3, 7, 3),
  (21, [(.aload_n 0, 1, 0, 0, 0), (.getfield 35, 3, 11, 8, 11), (.iload 4, 2, 4, 0, 0), (.iaload, 1, 0, 0, 0), (.iload_n 2, 1, 2, 0, 0)], .if_icmp .ne 15, 3, 5, 4),
  (32, [(.aload_n 0, 1, 0, 0, 0), (.getfield 13, 3, 4, 8, 4), (.iload_n 1, 1, 1, 0, 0), (.iaload, 1, 0, 0, 0), (.iload 4, 2, 4, 0, 0), (.iadd, 1, 0, 0, 0)], .goto 4, 3, 6, 0),
  (44, [(.iload_n 3, 1, 3, 0, 0)], .nop, 0, 6, 0),
  (45, [(.istore_n 3, 1, 3, 0, 0), (.iinc 4 1, 3, 4, 0, 1)], .goto (-39), 3, 2, 0),
  (52, [(.iload_n 3, 1, 3, 0, 0)], .ireturn, 1, 0, 0)]
def cd_X8_groups : List SG := [(0, [(.aload_n 0, 1, 0, 0, 0), (.aload_n 0, 1, 0, 0, 0), (.getfield 60, 3, 0, 8, 0)], .invokevirtual 116, 3, 92, 1),
  (8, [], .ireturn, 1, 0, 0)]
def cd_X8_teams : List SG := [(0, [(.aload_n 0, 1, 0, 0, 0), (.aload_n 0, 1, 0, 0, 0), (.getfield 53, 3, 1, 8, 1)], .invokevirtual 116, 3, 92, 1),
  (8, [], .ireturn, 1, 0, 0)]
def cd_X8_groupOf : List SG := [(0, [(.aload_n 0, 1, 0, 0, 0), (.aload_n 0, 1, 0, 0, 0), (.iload_n 1, 1, 1, 0, 0)], .invokevirtual 75, 3, 93, 1),
  (6, [(.iconst 1, 1, 0, 0, 1), (.iconst 1, 1, 0, 0, 1)], .invokevirtual 67, 3, 91, 2),
  (11, [], .ifCond .eq 12, 3, 4, 3),
  (14, [(.aload_n 0, 1, 0, 0, 0), (.getfield 20, 3, 6, 8, 6), (.iload_n 1, 1, 1, 0, 0), (.iaload, 1, 0, 0, 0)], .goto 4, 3, 5, 0),
  (23, [(.iconst 0, 1, 0, 0, 0)], .nop, 0, 5, 0),
  (24, [], .ireturn, 1, 0, 0)]
def cd_X8_played : List SG := [(0, [(.aload_n 0, 1, 0, 0, 0), (.aload_n 0, 1, 0, 0, 0), (.iload_n 1, 1, 1, 0, 0)], .invokevirtual 75, 3, 93, 1),
  (6, [(.iconst 1, 1, 0, 0, 1), (.iconst 1, 1, 0, 0, 1)], .invokevirtual 67, 3, 91, 2),
  (11, [], .ifCond .ne 5, 3, 4, 3),
  (14, [(.iconst 0, 1, 0, 0, 0)], .ireturn, 1, 0, 0),
  (16, [(.iconst 0, 1, 0, 0, 0), (.istore_n 2, 1, 2, 0, 0), (.iconst 0, 1, 0, 0, 0), (.istore_n 3, 1, 3, 0, 0)], .nop, 0, 5, 0),
  (20, [(.iload_n 3, 1, 3, 0, 0), (.aload_n 0, 1, 0, 0, 0), (.getfield 17, 3, 5, 8, 5), (.aload_n 0, 1, 0, 0, 0), (.getfield 20, 3, 6, 8, 6), (.iload_n 1, 1, 1, 0, 0), (.iaload, 1, 0, 0, 0), (.iaload, 1, 0, 0, 0)], .if_icmp .ge 31, 3, 10, 6),
  (35, [(.iload_n 2, 1, 2, 0, 0), (.aload_n 0, 1, 0, 0, 0), (.getfield 32, 3, 10, 8, 10), (.iconst 5, 1, 0, 0, 5), (.iload_n 1, 1, 1, 0, 0), (.imul, 1, 0, 0, 0), (.iload_n 3, 1, 3, 0, 0), (.iadd, 1, 0, 0, 0), (.iaload, 1, 0, 0, 0), (.iconst (-1), 1, 0, 0, (-1))], .if_icmp .ne 7, 3, 8, 7),
  (50, [(.iconst 0, 1, 0, 0, 0)], .goto 4, 3, 9, 0),
  (54, [(.iconst 1, 1, 0, 0, 1)], .nop, 0, 9, 0),
  (55, [(.iadd, 1, 0, 0, 0), (.istore_n 2, 1, 2, 0, 0), (.iinc 3 1, 3, 3, 0, 1)], .goto (-40), 3, 5, 0),
  (63, [(.iload_n 2, 1, 2, 0, 0)], .ireturn, 1, 0, 0)]
def cd_X8_points : List SG := [(0, [(.aload_n 0, 1, 0, 0, 0), (.aload_n 0, 1, 0, 0, 0), (.iload_n 1, 1, 1, 0, 0)], .invokevirtual 75, 3, 93, 1),
  (6, [(.iconst 1, 1, 0, 0, 1), (.iconst 1, 1, 0, 0, 1)], .invokevirtual 67, 3, 91, 2),
  (11, [], .ifCond .eq 11, 3, 5, 3),
  (14, [(.aload_n 0, 1, 0, 0, 0), (.iload_n 1, 1, 1, 0, 0)], .invokevirtual 106, 3, 109, 4),
  (19, [], .goto 4, 3, 6, 0),
  (22, [(.iconst 0, 1, 0, 0, 0)], .nop, 0, 6, 0),
  (23, [], .ireturn, 1, 0, 0)]
def cd_X8_difference : List SG := [(0, [(.aload_n 0, 1, 0, 0, 0), (.aload_n 0, 1, 0, 0, 0), (.iload_n 1, 1, 1, 0, 0)], .invokevirtual 75, 3, 93, 1),
  (6, [(.iconst 1, 1, 0, 0, 1), (.iconst 1, 1, 0, 0, 1)], .invokevirtual 67, 3, 91, 2),
  (11, [], .ifCond .eq 14, 3, 5, 3),
  (14, [(.aload_n 0, 1, 0, 0, 0), (.iload_n 1, 1, 1, 0, 0), (.iconst 1, 1, 0, 0, 1), (.bipush 31, 2, 0, 0, 31)], .invokevirtual 96, 3, 108, 4),
  (22, [], .goto 4, 3, 6, 0),
  (25, [(.iconst 0, 1, 0, 0, 0)], .nop, 0, 6, 0),
  (26, [], .ireturn, 1, 0, 0)]
def cd_X8_goals : List SG := [(0, [(.aload_n 0, 1, 0, 0, 0), (.aload_n 0, 1, 0, 0, 0), (.iload_n 1, 1, 1, 0, 0)], .invokevirtual 75, 3, 93, 1),
  (6, [(.iconst 1, 1, 0, 0, 1), (.iconst 1, 1, 0, 0, 1)], .invokevirtual 67, 3, 91, 2),
  (11, [], .ifCond .eq 14, 3, 5, 3),
  (14, [(.aload_n 0, 1, 0, 0, 0), (.iload_n 1, 1, 1, 0, 0), (.iconst 2, 1, 0, 0, 2), (.bipush 31, 2, 0, 0, 31)], .invokevirtual 96, 3, 108, 4),
  (22, [], .goto 4, 3, 6, 0),
  (25, [(.iconst 0, 1, 0, 0, 0)], .nop, 0, 6, 0),
  (26, [], .ireturn, 1, 0, 0)]
def cd_X8_place : List SG := [(0, [(.aload_n 0, 1, 0, 0, 0), (.aload_n 0, 1, 0, 0, 0), (.iload_n 1, 1, 1, 0, 0)], .invokevirtual 75, 3, 93, 1),
  (6, [(.iconst 1, 1, 0, 0, 1), (.iconst 1, 1, 0, 0, 1)], .invokevirtual 67, 3, 91, 2),
  (11, [], .ifCond .eq 11, 3, 5, 3),
  (14, [(.aload_n 0, 1, 0, 0, 0), (.iload_n 1, 1, 1, 0, 0)], .invokevirtual 119, 3, 114, 4),
  (19, [], .goto 4, 3, 6, 0),
  (22, [(.iconst 0, 1, 0, 0, 0)], .nop, 0, 6, 0),
  (23, [], .ireturn, 1, 0, 0)]
def cd_X8_teamAt : List SG := [(0, [(.aload_n 0, 1, 0, 0, 0), (.iload_n 1, 1, 1, 0, 0)], .invokevirtual 122, 3, 94, 1),
  (5, [(.istore_n 3, 1, 3, 0, 0), (.aload_n 0, 1, 0, 0, 0), (.iload_n 3, 1, 3, 0, 0)], .ifCond .eq 31, 3, 8, 2),
  (11, [(.iload_n 2, 1, 2, 0, 0), (.iconst 0, 1, 0, 0, 0), (.aload_n 0, 1, 0, 0, 0), (.getfield 17, 3, 5, 8, 5), (.iload_n 3, 1, 3, 0, 0)], .ifCond .eq 7, 3, 4, 3),
  (21, [(.iload_n 1, 1, 1, 0, 0)], .goto 4, 3, 5, 0),
  (25, [(.iconst 0, 1, 0, 0, 0)], .nop, 0, 5, 0),
  (26, [(.iaload, 1, 0, 0, 0), (.iconst 1, 1, 0, 0, 1), (.isub, 1, 0, 0, 0)], .invokestatic 56, 3, 90, 6),
  (32, [], .ifCond .eq 7, 3, 8, 7),
  (35, [(.iconst 1, 1, 0, 0, 1)], .goto 4, 3, 9, 0),
  (39, [(.iconst 0, 1, 0, 0, 0)], .nop, 0, 9, 0),
  (40, [(.iconst 1, 1, 0, 0, 1), (.iconst 1, 1, 0, 0, 1)], .invokevirtual 67, 3, 91, 10),
  (45, [], .ifCond .eq 12, 3, 13, 11),
  (48, [(.aload_n 0, 1, 0, 0, 0), (.iload_n 1, 1, 1, 0, 0), (.iload_n 2, 1, 2, 0, 0)], .invokevirtual 125, 3, 115, 12),
  (54, [], .goto 4, 3, 14, 0),
  (57, [(.iconst 0, 1, 0, 0, 0)], .nop, 0, 14, 0),
  (58, [], .ireturn, 1, 0, 0)]
def cd_X8_rule : List SG := [(0, [(.aload_n 0, 1, 0, 0, 0), (.iload_n 1, 1, 1, 0, 0)], .invokevirtual 75, 3, 93, 1),
  (5, [], .ifCond .eq 15, 3, 5, 2),
  (8, [(.aload_n 0, 1, 0, 0, 0), (.iload_n 2, 1, 2, 0, 0)], .invokevirtual 75, 3, 93, 3),
  (13, [], .ifCond .eq 7, 3, 5, 4),
  (16, [(.iconst 1, 1, 0, 0, 1)], .goto 4, 3, 6, 0),
  (20, [(.iconst 0, 1, 0, 0, 0)], .nop, 0, 6, 0),
  (21, [(.istore_n 3, 1, 3, 0, 0), (.aload_n 0, 1, 0, 0, 0), (.iload_n 3, 1, 3, 0, 0), (.iload_n 3, 1, 3, 0, 0)], .ifCond .eq 16, 3, 10, 7),
  (28, [(.aload_n 0, 1, 0, 0, 0), (.iload_n 1, 1, 1, 0, 0), (.iload_n 2, 1, 2, 0, 0)], .invokevirtual 79, 3, 95, 8),
  (34, [], .ifCond .eq 7, 3, 10, 9),
  (37, [(.iconst 1, 1, 0, 0, 1)], .goto 4, 3, 11, 0),
  (41, [(.iconst 0, 1, 0, 0, 0)], .nop, 0, 11, 0),
  (42, [(.iconst 1, 1, 0, 0, 1)], .invokevirtual 67, 3, 91, 12),
  (46, [], .ifCond .ne 5, 3, 14, 13),
  (49, [(.iconst 0, 1, 0, 0, 0)], .ireturn, 1, 0, 0),
  (51, [(.aload_n 0, 1, 0, 0, 0), (.aload_n 0, 1, 0, 0, 0), (.getfield 20, 3, 6, 8, 6), (.iload_n 1, 1, 1, 0, 0), (.iaload, 1, 0, 0, 0)], .invokevirtual 112, 3, 113, 15),
  (61, [(.aload_n 0, 1, 0, 0, 0), (.getfield 41, 3, 13, 8, 13), (.iconst 5, 1, 0, 0, 5), (.iload_n 1, 1, 1, 0, 0), (.aload_n 0, 1, 0, 0, 0), (.getfield 13, 3, 4, 8, 4), (.aload_n 0, 1, 0, 0, 0), (.getfield 20, 3, 6, 8, 6), (.iload_n 1, 1, 1, 0, 0), (.iaload, 1, 0, 0, 0), (.iaload, 1, 0, 0, 0), (.isub, 1, 0, 0, 0), (.imul, 1, 0, 0, 0), (.iload_n 2, 1, 2, 0, 0), (.iadd, 1, 0, 0, 0), (.aload_n 0, 1, 0, 0, 0), (.getfield 13, 3, 4, 8, 4), (.aload_n 0, 1, 0, 0, 0), (.getfield 20, 3, 6, 8, 6), (.iload_n 1, 1, 1, 0, 0), (.iaload, 1, 0, 0, 0), (.iaload, 1, 0, 0, 0), (.isub, 1, 0, 0, 0), (.iaload, 1, 0, 0, 0)], .ireturn, 1, 0, 0)]
def cd_X8_matchesLeft : List SG := [(0, [(.aload_n 0, 1, 0, 0, 0), (.aload_n 0, 1, 0, 0, 0), (.iload_n 1, 1, 1, 0, 0)], .invokevirtual 122, 3, 94, 1),
  (6, [(.iconst 1, 1, 0, 0, 1), (.iconst 1, 1, 0, 0, 1)], .invokevirtual 67, 3, 91, 2),
  (11, [], .ifCond .eq 11, 3, 5, 3),
  (14, [(.aload_n 0, 1, 0, 0, 0), (.iload_n 1, 1, 1, 0, 0)], .invokevirtual 86, 3, 99, 4),
  (19, [], .goto 4, 3, 6, 0),
  (22, [(.iconst 0, 1, 0, 0, 0)], .nop, 0, 6, 0),
  (23, [], .ireturn, 1, 0, 0)]
def cd_X8_counting : List SG := [(0, [(.iconst 5, 1, 0, 0, 5), (.istore_n 2, 1, 2, 0, 0), (.iconst 0, 1, 0, 0, 0), (.istore_n 3, 1, 3, 0, 0)], .nop, 0, 1, 0),
  (4, [(.iload_n 3, 1, 3, 0, 0), (.aload_n 0, 1, 0, 0, 0), (.getfield 60, 3, 0, 8, 0)], .if_icmp .ge 30, 3, 6, 2),
  (12, [(.aload_n 0, 1, 0, 0, 0), (.getfield 17, 3, 5, 8, 5), (.iload_n 3, 1, 3, 0, 0), (.iaload, 1, 0, 0, 0), (.iload_n 2, 1, 2, 0, 0)], .if_icmp .ge 12, 3, 4, 3),
  (22, [(.aload_n 0, 1, 0, 0, 0), (.getfield 17, 3, 5, 8, 5), (.iload_n 3, 1, 3, 0, 0), (.iaload, 1, 0, 0, 0)], .goto 4, 3, 5, 0),
  (31, [(.iload_n 2, 1, 2, 0, 0)], .nop, 0, 5, 0),
  (32, [(.istore_n 2, 1, 2, 0, 0), (.iinc 3 1, 3, 3, 0, 1)], .goto (-32), 3, 1, 0),
  (39, [(.aload_n 0, 1, 0, 0, 0), (.iload_n 1, 1, 1, 0, 0)], .invokevirtual 112, 3, 113, 7),
  (44, [(.iconst 0, 1, 0, 0, 0), (.istore_n 3, 1, 3, 0, 0), (.iconst 0, 1, 0, 0, 0), (.istore 4, 2, 4, 0, 0)], .nop, 0, 8, 0),
  (49, [(.iload 4, 2, 4, 0, 0), (.aload_n 0, 1, 0, 0, 0), (.getfield 17, 3, 5, 8, 5), (.iload_n 1, 1, 1, 0, 0), (.iaload, 1, 0, 0, 0)], .if_icmp .ge 31, 3, 13, 9),
  (60, [(.iload_n 3, 1, 3, 0, 0), (.aload_n 0, 1, 0, 0, 0), (.getfield 35, 3, 11, 8, 11), (.iload 4, 2, 4, 0, 0), (.iaload, 1, 0, 0, 0), (.iload_n 2, 1, 2, 0, 0)], .if_icmp .ge 10, 3, 11, 10),
  (72, [(.iconst 1, 1, 0, 0, 1), (.iload 4, 2, 4, 0, 0), (.ishl, 1, 0, 0, 0)], .goto 4, 3, 12, 0),
  (79, [(.iconst 0, 1, 0, 0, 0)], .nop, 0, 12, 0),
  (80, [(.ior, 1, 0, 0, 0), (.istore_n 3, 1, 3, 0, 0), (.iinc 4 1, 3, 4, 0, 1)], .goto (-36), 3, 8, 0),
  (88, [(.iload_n 3, 1, 3, 0, 0)], .ireturn, 1, 0, 0)]
def cd_X8_thirdSum : List SG := [(0, [(.aload_n 0, 1, 0, 0, 0), (.iload_n 1, 1, 1, 0, 0)], .invokevirtual 128, 3, 127, 1),
  (5, [(.istore_n 3, 1, 3, 0, 0), (.aload_n 0, 1, 0, 0, 0), (.iload_n 1, 1, 1, 0, 0), (.iconst 2, 1, 0, 0, 2)], .invokevirtual 125, 3, 115, 2),
  (12, [(.istore 4, 2, 4, 0, 0), (.aload_n 0, 1, 0, 0, 0), (.iload 4, 2, 4, 0, 0), (.iload_n 2, 1, 2, 0, 0), (.iload_n 3, 1, 3, 0, 0)], .invokevirtual 96, 3, 108, 3),
  (22, [(.iload_n 2, 1, 2, 0, 0)], .ifCond .ne 13, 3, 5, 4),
  (26, [(.aload_n 0, 1, 0, 0, 0), (.getfield 23, 3, 7, 8, 7), (.iload 4, 2, 4, 0, 0), (.iaload, 1, 0, 0, 0)], .goto 4, 3, 6, 0),
  (36, [(.iconst 0, 1, 0, 0, 0)], .nop, 0, 6, 0),
  (37, [(.isub, 1, 0, 0, 0)], .ireturn, 1, 0, 0)]
def cd_X8_isBetter : List SG := [(0, [(.aload_n 0, 1, 0, 0, 0), (.iload_n 1, 1, 1, 0, 0), (.iconst 2, 1, 0, 0, 2)], .invokevirtual 125, 3, 115, 1),
  (6, [(.istore_n 3, 1, 3, 0, 0), (.aload_n 0, 1, 0, 0, 0), (.iload_n 2, 1, 2, 0, 0), (.iconst 2, 1, 0, 0, 2)], .invokevirtual 125, 3, 115, 2),
  (13, [(.istore 4, 2, 4, 0, 0), (.iconst 0, 1, 0, 0, 0), (.istore 5, 2, 5, 0, 0)], .nop, 0, 3, 0),
  (18, [(.iload 5, 2, 5, 0, 0), (.iconst 3, 1, 0, 0, 3)], .if_icmp .ge 42, 3, 12, 4),
  (24, [(.aload_n 0, 1, 0, 0, 0), (.iload_n 1, 1, 1, 0, 0), (.iload 5, 2, 5, 0, 0)], .invokevirtual 131, 3, 128, 5),
  (31, [(.aload_n 0, 1, 0, 0, 0), (.iload_n 2, 1, 2, 0, 0), (.iload 5, 2, 5, 0, 0)], .invokevirtual 131, 3, 128, 6),
  (38, [(.isub, 1, 0, 0, 0), (.istore 6, 2, 6, 0, 0), (.iload 6, 2, 6, 0, 0)], .ifCond .eq 14, 3, 11, 7),
  (46, [(.iload 6, 2, 6, 0, 0)], .ifCond .le 7, 3, 9, 8),
  (51, [(.iconst 1, 1, 0, 0, 1)], .goto 4, 3, 10, 0),
  (55, [(.iconst 0, 1, 0, 0, 0)], .nop, 0, 10, 0),
  (56, [], .ireturn, 1, 1, 0),
  (57, [(.iinc 5 1, 3, 5, 0, 1)], .goto (-42), 3, 3, 0),
  (63, [(.aload_n 0, 1, 0, 0, 0), (.getfield 26, 3, 8, 8, 8), (.iload_n 3, 1, 3, 0, 0), (.iaload, 1, 0, 0, 0), (.aload_n 0, 1, 0, 0, 0), (.getfield 26, 3, 8, 8, 8), (.iload 4, 2, 4, 0, 0), (.iaload, 1, 0, 0, 0)], .if_icmp .eq 25, 3, 17, 13),
  (79, [(.aload_n 0, 1, 0, 0, 0), (.getfield 26, 3, 8, 8, 8), (.iload_n 3, 1, 3, 0, 0), (.iaload, 1, 0, 0, 0), (.aload_n 0, 1, 0, 0, 0), (.getfield 26, 3, 8, 8, 8), (.iload 4, 2, 4, 0, 0), (.iaload, 1, 0, 0, 0)], .if_icmp .ge 7, 3, 15, 14),
  (95, [(.iconst 1, 1, 0, 0, 1)], .goto 4, 3, 16, 0),
  (99, [(.iconst 0, 1, 0, 0, 0)], .nop, 0, 16, 0),
  (100, [], .ireturn, 1, 1, 0),
  (101, [(.aload_n 0, 1, 0, 0, 0), (.getfield 29, 3, 9, 8, 9), (.iload_n 3, 1, 3, 0, 0), (.iaload, 1, 0, 0, 0), (.aload_n 0, 1, 0, 0, 0), (.getfield 29, 3, 9, 8, 9), (.iload 4, 2, 4, 0, 0), (.iaload, 1, 0, 0, 0)], .if_icmp .eq 27, 3, 21, 18),
  (117, [(.aload_n 0, 1, 0, 0, 0), (.getfield 29, 3, 9, 8, 9), (.iload_n 3, 1, 3, 0, 0), (.iaload, 1, 0, 0, 0), (.aload_n 0, 1, 0, 0, 0), (.getfield 29, 3, 9, 8, 9), (.iload 4, 2, 4, 0, 0), (.iaload, 1, 0, 0, 0)], .if_icmp .ge 7, 3, 20, 19),
  (133, [(.iconst 1, 1, 0, 0, 1)], .goto 18, 3, 24, 0),
  (137, [(.iconst 0, 1, 0, 0, 0)], .goto 14, 3, 24, 0),
  (141, [(.iload_n 3, 1, 3, 0, 0), (.iload 4, 2, 4, 0, 0)], .if_icmp .ge 7, 3, 23, 22),
  (147, [(.iconst 1, 1, 0, 0, 1)], .goto 4, 3, 24, 0),
  (151, [(.iconst 0, 1, 0, 0, 0)], .nop, 0, 24, 0),
  (152, [], .ireturn, 1, 1, 0)]
def cd_X8_rankOf : List SG := [(0, [(.iconst 0, 1, 0, 0, 0), (.istore_n 2, 1, 2, 0, 0), (.iconst 0, 1, 0, 0, 0), (.istore_n 3, 1, 3, 0, 0)], .nop, 0, 1, 0),
  (4, [(.iload_n 3, 1, 3, 0, 0), (.aload_n 0, 1, 0, 0, 0), (.getfield 60, 3, 0, 8, 0)], .if_icmp .ge 31, 3, 8, 2),
  (12, [(.iload_n 2, 1, 2, 0, 0), (.iload_n 3, 1, 3, 0, 0), (.iload_n 1, 1, 1, 0, 0)], .if_icmp .eq 16, 3, 6, 3),
  (18, [(.aload_n 0, 1, 0, 0, 0), (.iload_n 3, 1, 3, 0, 0), (.iload_n 1, 1, 1, 0, 0)], .invokevirtual 134, 3, 129, 4),
  (24, [], .ifCond .eq 7, 3, 6, 5),
  (27, [(.iconst 1, 1, 0, 0, 1)], .goto 4, 3, 7, 0),
  (31, [(.iconst 0, 1, 0, 0, 0)], .nop, 0, 7, 0),
  (32, [(.iadd, 1, 0, 0, 0), (.istore_n 2, 1, 2, 0, 0), (.iinc 3 1, 3, 3, 0, 1)], .goto (-33), 3, 1, 0),
  (40, [(.iload_n 2, 1, 2, 0, 0)], .ireturn, 1, 0, 0)]
def cd_X8_thirdPoints : List SG := [(0, [(.aload_n 0, 1, 0, 0, 0), (.aload_n 0, 1, 0, 0, 0), (.iload_n 1, 1, 1, 0, 0)], .invokevirtual 122, 3, 94, 1),
  (6, [(.iconst 1, 1, 0, 0, 1), (.iconst 1, 1, 0, 0, 1)], .invokevirtual 67, 3, 91, 2),
  (11, [], .ifCond .eq 12, 3, 5, 3),
  (14, [(.aload_n 0, 1, 0, 0, 0), (.iload_n 1, 1, 1, 0, 0), (.iconst 0, 1, 0, 0, 0)], .invokevirtual 131, 3, 128, 4),
  (20, [], .goto 4, 3, 6, 0),
  (23, [(.iconst 0, 1, 0, 0, 0)], .nop, 0, 6, 0),
  (24, [], .ireturn, 1, 0, 0)]
def cd_X8_thirdRank : List SG := [(0, [(.aload_n 0, 1, 0, 0, 0), (.aload_n 0, 1, 0, 0, 0), (.iload_n 1, 1, 1, 0, 0)], .invokevirtual 122, 3, 94, 1),
  (6, [(.iconst 1, 1, 0, 0, 1), (.iconst 1, 1, 0, 0, 1)], .invokevirtual 67, 3, 91, 2),
  (11, [], .ifCond .eq 11, 3, 5, 3),
  (14, [(.aload_n 0, 1, 0, 0, 0), (.iload_n 1, 1, 1, 0, 0)], .invokevirtual 137, 3, 130, 4),
  (19, [], .goto 4, 3, 6, 0),
  (22, [(.iconst 0, 1, 0, 0, 0)], .nop, 0, 6, 0),
  (23, [], .ireturn, 1, 0, 0)]
def cd_X8_isThrough : List SG := [(0, [(.aload_n 0, 1, 0, 0, 0), (.aload_n 0, 1, 0, 0, 0), (.iload_n 1, 1, 1, 0, 0)], .invokevirtual 75, 3, 93, 1),
  (6, [(.iconst 1, 1, 0, 0, 1), (.iconst 1, 1, 0, 0, 1)], .invokevirtual 67, 3, 91, 2),
  (11, [], .ifCond .ne 5, 3, 4, 3),
  (14, [(.iconst 0, 1, 0, 0, 0)], .ireturn, 1, 1, 0),
  (16, [(.aload_n 0, 1, 0, 0, 0), (.iload_n 1, 1, 1, 0, 0)], .invokevirtual 119, 3, 114, 5),
  (21, [(.istore_n 2, 1, 2, 0, 0), (.iload_n 2, 1, 2, 0, 0), (.aload_n 0, 1, 0, 0, 0), (.getfield 7, 3, 2, 8, 2)], .if_icmp .lt 25, 3, 9, 6),
  (30, [(.iload_n 2, 1, 2, 0, 0), (.iconst 2, 1, 0, 0, 2)], .if_icmp .ne 24, 3, 10, 7),
  (35, [(.aload_n 0, 1, 0, 0, 0), (.aload_n 0, 1, 0, 0, 0), (.getfield 20, 3, 6, 8, 6), (.iload_n 1, 1, 1, 0, 0), (.iaload, 1, 0, 0, 0)], .invokevirtual 137, 3, 130, 8),
  (45, [(.aload_n 0, 1, 0, 0, 0), (.getfield 90, 3, 3, 8, 3)], .if_icmp .ge 7, 3, 10, 9),
  (52, [(.iconst 1, 1, 0, 0, 1)], .goto 4, 3, 11, 0),
  (56, [(.iconst 0, 1, 0, 0, 0)], .nop, 0, 11, 0),
  (57, [], .ireturn, 1, 1, 0)]
def cd_X8_waysOf : List SG := [(0, [(.iconst 1, 1, 0, 0, 1), (.istore_n 2, 1, 2, 0, 0), (.aload_n 0, 1, 0, 0, 0), (.iload_n 1, 1, 1, 0, 0)], .invokevirtual 86, 3, 99, 1),
  (7, [(.istore_n 3, 1, 3, 0, 0)], .nop, 0, 2, 0),
  (8, [(.iload_n 3, 1, 3, 0, 0)], .ifCond .le 13, 3, 4, 3),
  (12, [(.iload_n 2, 1, 2, 0, 0), (.iconst 3, 1, 0, 0, 3), (.imul, 1, 0, 0, 0), (.istore_n 2, 1, 2, 0, 0), (.iinc 3 (-1), 3, 3, 0, (-1))], .goto (-11), 3, 2, 0),
  (22, [(.iload_n 2, 1, 2, 0, 0)], .ireturn, 1, 0, 0)]
def cd_X8_plays : List SG := [(0, [(.iload_n 2, 1, 2, 0, 0), (.istore_n 3, 1, 3, 0, 0), (.iconst 0, 1, 0, 0, 0), (.istore 4, 2, 4, 0, 0)], .nop, 0, 1, 0),
  (5, [(.iload 4, 2, 4, 0, 0), (.aload_n 0, 1, 0, 0, 0), (.getfield 17, 3, 5, 8, 5), (.iload_n 1, 1, 1, 0, 0), (.iaload, 1, 0, 0, 0)], .if_icmp .ge 29, 3, 4, 2),
  (16, [(.aload_n 0, 1, 0, 0, 0), (.getfield 47, 3, 15, 8, 15), (.iload 4, 2, 4, 0, 0), (.aload_n 0, 1, 0, 0, 0), (.aload_n 0, 1, 0, 0, 0), (.getfield 13, 3, 4, 8, 4), (.iload_n 1, 1, 1, 0, 0), (.iaload, 1, 0, 0, 0), (.iload 4, 2, 4, 0, 0), (.iadd, 1, 0, 0, 0)], .invokevirtual 106, 3, 109, 3),
  (35, [(.iastore, 1, 0, 0, 0), (.iinc 4 1, 3, 4, 0, 1)], .goto (-34), 3, 1, 0),
  (42, [(.iconst 0, 1, 0, 0, 0), (.istore 4, 2, 4, 0, 0)], .nop, 0, 5, 0),
  (45, [(.iload 4, 2, 4, 0, 0), (.aload_n 0, 1, 0, 0, 0), (.getfield 17, 3, 5, 8, 5), (.iload_n 1, 1, 1, 0, 0), (.iaload, 1, 0, 0, 0)], .if_icmp .ge 126, 3, 23, 6),
  (56, [(.iload 4, 2, 4, 0, 0), (.iconst 1, 1, 0, 0, 1), (.iadd, 1, 0, 0, 0), (.istore 5, 2, 5, 0, 0)], .nop, 0, 7, 0),
  (62, [(.iload 5, 2, 5, 0, 0), (.aload_n 0, 1, 0, 0, 0), (.getfield 17, 3, 5, 8, 5), (.iload_n 1, 1, 1, 0, 0), (.iaload, 1, 0, 0, 0)], .if_icmp .ge 103, 3, 22, 8),
  (73, [(.aload_n 0, 1, 0, 0, 0), (.aload_n 0, 1, 0, 0, 0), (.getfield 13, 3, 4, 8, 4), (.iload_n 1, 1, 1, 0, 0), (.iaload, 1, 0, 0, 0), (.iload 4, 2, 4, 0, 0), (.iadd, 1, 0, 0, 0), (.aload_n 0, 1, 0, 0, 0), (.getfield 13, 3, 4, 8, 4), (.iload_n 1, 1, 1, 0, 0), (.iaload, 1, 0, 0, 0), (.iload 5, 2, 5, 0, 0), (.iadd, 1, 0, 0, 0)], .invokevirtual 71, 3, 97, 9),
  (95, [], .ifCond .ne 72, 3, 21, 10),
  (98, [(.aload_n 0, 1, 0, 0, 0), (.getfield 47, 3, 15, 8, 15), (.iload 4, 2, 4, 0, 0), (.dup2, 1, 0, 0, 0), (.iaload, 1, 0, 0, 0), (.iload_n 3, 1, 3, 0, 0), (.iconst 3, 1, 0, 0, 3), (.irem, 1, 0, 0, 0)], .ifCond .ne 7, 3, 12, 11),
  (112, [(.iconst 3, 1, 0, 0, 3)], .goto 15, 3, 15, 0),
  (116, [(.iload_n 3, 1, 3, 0, 0), (.iconst 3, 1, 0, 0, 3), (.irem, 1, 0, 0, 0), (.iconst 1, 1, 0, 0, 1)], .if_icmp .ne 7, 3, 14, 13),
  (123, [(.iconst 1, 1, 0, 0, 1)], .goto 4, 3, 15, 0),
  (127, [(.iconst 0, 1, 0, 0, 0)], .nop, 0, 15, 0),
  (128, [(.iadd, 1, 0, 0, 0), (.iastore, 1, 0, 0, 0), (.aload_n 0, 1, 0, 0, 0), (.getfield 47, 3, 15, 8, 15), (.iload 5, 2, 5, 0, 0), (.dup2, 1, 0, 0, 0), (.iaload, 1, 0, 0, 0), (.iload_n 3, 1, 3, 0, 0), (.iconst 3, 1, 0, 0, 3), (.irem, 1, 0, 0, 0), (.iconst 2, 1, 0, 0, 2)], .if_icmp .ne 7, 3, 17, 16),
  (145, [(.iconst 3, 1, 0, 0, 3)], .goto 15, 3, 20, 0),
  (149, [(.iload_n 3, 1, 3, 0, 0), (.iconst 3, 1, 0, 0, 3), (.irem, 1, 0, 0, 0), (.iconst 1, 1, 0, 0, 1)], .if_icmp .ne 7, 3, 19, 18),
  (156, [(.iconst 1, 1, 0, 0, 1)], .goto 4, 3, 20, 0),
  (160, [(.iconst 0, 1, 0, 0, 0)], .nop, 0, 20, 0),
  (161, [(.iadd, 1, 0, 0, 0), (.iastore, 1, 0, 0, 0), (.iload_n 3, 1, 3, 0, 0), (.iconst 3, 1, 0, 0, 3), (.idiv, 1, 0, 0, 0), (.istore_n 3, 1, 3, 0, 0)], .nop, 0, 21, 0),
  (167, [(.iinc 5 1, 3, 5, 0, 1)], .goto (-108), 3, 7, 0),
  (173, [(.iinc 4 1, 3, 4, 0, 1)], .goto (-131), 3, 5, 0),
  (179, [], .return_, 1, 0, 0)]
def cd_X8_before : List SG := [(0, [(.aload_n 0, 1, 0, 0, 0), (.getfield 20, 3, 6, 8, 6), (.iload_n 1, 1, 1, 0, 0), (.iaload, 1, 0, 0, 0), (.istore_n 3, 1, 3, 0, 0), (.iconst 0, 1, 0, 0, 0), (.istore 4, 2, 4, 0, 0), (.iconst 0, 1, 0, 0, 0), (.istore 5, 2, 5, 0, 0)], .nop, 0, 1, 0),
  (13, [(.iload 5, 2, 5, 0, 0), (.aload_n 0, 1, 0, 0, 0), (.getfield 17, 3, 5, 8, 5), (.iload_n 3, 1, 3, 0, 0), (.iaload, 1, 0, 0, 0)], .if_icmp .ge 57, 3, 7, 2),
  (24, [(.iload 4, 2, 4, 0, 0), (.iload 5, 2, 5, 0, 0), (.iload_n 1, 1, 1, 0, 0), (.aload_n 0, 1, 0, 0, 0), (.getfield 13, 3, 4, 8, 4), (.iload_n 3, 1, 3, 0, 0), (.iaload, 1, 0, 0, 0), (.isub, 1, 0, 0, 0)], .if_icmp .eq 32, 3, 5, 3),
  (39, [(.aload_n 0, 1, 0, 0, 0), (.getfield 47, 3, 15, 8, 15), (.iload 5, 2, 5, 0, 0), (.iaload, 1, 0, 0, 0), (.aload_n 0, 1, 0, 0, 0), (.getfield 47, 3, 15, 8, 15), (.iload_n 1, 1, 1, 0, 0), (.aload_n 0, 1, 0, 0, 0), (.getfield 13, 3, 4, 8, 4), (.iload_n 3, 1, 3, 0, 0), (.iaload, 1, 0, 0, 0), (.isub, 1, 0, 0, 0), (.iaload, 1, 0, 0, 0), (.iload_n 2, 1, 2, 0, 0), (.isub, 1, 0, 0, 0)], .if_icmp .le 7, 3, 5, 4),
  (64, [(.iconst 1, 1, 0, 0, 1)], .goto 4, 3, 6, 0),
  (68, [(.iconst 0, 1, 0, 0, 0)], .nop, 0, 6, 0),
  (69, [(.iadd, 1, 0, 0, 0), (.istore 4, 2, 4, 0, 0), (.iinc 5 1, 3, 5, 0, 1)], .goto (-62), 3, 1, 0),
  (78, [(.iload 4, 2, 4, 0, 0)], .ireturn, 1, 0, 0)]
def cd_X8_ways : List SG := [(0, [(.aload_n 0, 1, 0, 0, 0), (.aload_n 0, 1, 0, 0, 0), (.iload_n 1, 1, 1, 0, 0)], .invokevirtual 122, 3, 94, 1),
  (6, [(.iconst 1, 1, 0, 0, 1), (.iconst 1, 1, 0, 0, 1)], .invokevirtual 67, 3, 91, 2),
  (11, [], .ifCond .eq 11, 3, 5, 3),
  (14, [(.aload_n 0, 1, 0, 0, 0), (.iload_n 1, 1, 1, 0, 0)], .invokevirtual 140, 3, 134, 4),
  (19, [], .goto 4, 3, 6, 0),
  (22, [(.iconst 0, 1, 0, 0, 0)], .nop, 0, 6, 0),
  (23, [], .ireturn, 1, 0, 0)]
def cd_X8_counts : List SG := [(0, [(.iconst 0, 1, 0, 0, 0), (.istore_n 3, 1, 3, 0, 0), (.aload_n 0, 1, 0, 0, 0), (.aload_n 0, 1, 0, 0, 0), (.getfield 20, 3, 6, 8, 6), (.iload_n 1, 1, 1, 0, 0), (.iaload, 1, 0, 0, 0)], .invokevirtual 140, 3, 134, 1),
  (12, [(.istore 4, 2, 4, 0, 0), (.iconst 0, 1, 0, 0, 0), (.istore 5, 2, 5, 0, 0)], .nop, 0, 2, 0),
  (17, [(.iload 5, 2, 5, 0, 0), (.iload 4, 2, 4, 0, 0)], .if_icmp .ge 62, 3, 13, 3),
  (24, [(.aload_n 0, 1, 0, 0, 0), (.aload_n 0, 1, 0, 0, 0), (.getfield 20, 3, 6, 8, 6), (.iload_n 1, 1, 1, 0, 0), (.iaload, 1, 0, 0, 0), (.iload 5, 2, 5, 0, 0)], .invokevirtual 143, 3, 135, 4),
  (36, [(.iload_n 3, 1, 3, 0, 0), (.iload_n 2, 1, 2, 0, 0)], .ifCond .eq 19, 3, 8, 5),
  (41, [(.aload_n 0, 1, 0, 0, 0), (.iload_n 1, 1, 1, 0, 0), (.iconst 1, 1, 0, 0, 1)], .invokevirtual 147, 3, 136, 6),
  (47, [(.aload_n 0, 1, 0, 0, 0), (.getfield 7, 3, 2, 8, 2)], .if_icmp .ge 23, 3, 11, 7),
  (54, [], .goto 16, 3, 10, 0),
  (57, [(.aload_n 0, 1, 0, 0, 0), (.iload_n 1, 1, 1, 0, 0), (.iconst 0, 1, 0, 0, 0)], .invokevirtual 147, 3, 136, 9),
  (63, [(.aload_n 0, 1, 0, 0, 0), (.getfield 7, 3, 2, 8, 2)], .if_icmp .lt 7, 3, 11, 10),
  (70, [(.iconst 1, 1, 0, 0, 1)], .goto 4, 3, 12, 0),
  (74, [(.iconst 0, 1, 0, 0, 0)], .nop, 0, 12, 0),
  (75, [(.iadd, 1, 0, 0, 0), (.istore_n 3, 1, 3, 0, 0), (.iinc 5 1, 3, 5, 0, 1)], .goto (-63), 3, 2, 0),
  (83, [(.iload_n 3, 1, 3, 0, 0)], .ireturn, 1, 0, 0)]
def cd_X8_waysSafe : List SG := [(0, [(.aload_n 0, 1, 0, 0, 0), (.aload_n 0, 1, 0, 0, 0), (.iload_n 1, 1, 1, 0, 0)], .invokevirtual 75, 3, 93, 1),
  (6, [(.iconst 1, 1, 0, 0, 1), (.iconst 1, 1, 0, 0, 1)], .invokevirtual 67, 3, 91, 2),
  (11, [], .ifCond .eq 12, 3, 5, 3),
  (14, [(.aload_n 0, 1, 0, 0, 0), (.iload_n 1, 1, 1, 0, 0), (.iconst 1, 1, 0, 0, 1)], .invokevirtual 150, 3, 138, 4),
  (20, [], .goto 4, 3, 6, 0),
  (23, [(.iconst 0, 1, 0, 0, 0)], .nop, 0, 6, 0),
  (24, [], .ireturn, 1, 0, 0)]
def cd_X8_waysLost : List SG := [(0, [(.aload_n 0, 1, 0, 0, 0), (.aload_n 0, 1, 0, 0, 0), (.iload_n 1, 1, 1, 0, 0)], .invokevirtual 75, 3, 93, 1),
  (6, [(.iconst 1, 1, 0, 0, 1), (.iconst 1, 1, 0, 0, 1)], .invokevirtual 67, 3, 91, 2),
  (11, [], .ifCond .eq 12, 3, 5, 3),
  (14, [(.aload_n 0, 1, 0, 0, 0), (.iload_n 1, 1, 1, 0, 0), (.iconst 0, 1, 0, 0, 0)], .invokevirtual 150, 3, 138, 4),
  (20, [], .goto 4, 3, 6, 0),
  (23, [(.iconst 0, 1, 0, 0, 0)], .nop, 0, 6, 0),
  (24, [], .ireturn, 1, 0, 0)]
def cd_X8_badWay : List SG := [(0, [(.aload_n 0, 1, 0, 0, 0), (.aload_n 0, 1, 0, 0, 0), (.iload_n 1, 1, 1, 0, 0)], .invokevirtual 75, 3, 93, 1),
  (6, [(.iconst 1, 1, 0, 0, 1), (.iconst 1, 1, 0, 0, 1)], .invokevirtual 67, 3, 91, 2),
  (11, [], .ifCond .ne 5, 3, 4, 3),
  (14, [(.iconst 0, 1, 0, 0, 0)], .ireturn, 1, 0, 0),
  (16, [(.aload_n 0, 1, 0, 0, 0), (.aload_n 0, 1, 0, 0, 0), (.getfield 20, 3, 6, 8, 6), (.iload_n 1, 1, 1, 0, 0), (.iaload, 1, 0, 0, 0)], .invokevirtual 140, 3, 134, 5),
  (26, [(.istore_n 2, 1, 2, 0, 0), (.iconst 0, 1, 0, 0, 0), (.istore_n 3, 1, 3, 0, 0)], .nop, 0, 6, 0),
  (29, [(.iload_n 3, 1, 3, 0, 0), (.iload_n 2, 1, 2, 0, 0)], .if_icmp .ge 35, 3, 12, 7),
  (34, [(.aload_n 0, 1, 0, 0, 0), (.aload_n 0, 1, 0, 0, 0), (.getfield 20, 3, 6, 8, 6), (.iload_n 1, 1, 1, 0, 0), (.iaload, 1, 0, 0, 0), (.iload_n 3, 1, 3, 0, 0)], .invokevirtual 143, 3, 135, 8),
  (45, [(.aload_n 0, 1, 0, 0, 0), (.iload_n 1, 1, 1, 0, 0), (.iconst 1, 1, 0, 0, 1)], .invokevirtual 147, 3, 136, 9),
  (51, [(.aload_n 0, 1, 0, 0, 0), (.getfield 7, 3, 2, 8, 2)], .if_icmp .lt 5, 3, 11, 10),
  (58, [(.iload_n 3, 1, 3, 0, 0)], .ireturn, 1, 0, 0),
  (60, [(.iinc 3 1, 3, 3, 0, 1)], .goto (-34), 3, 6, 0),
  (66, [(.iconst (-1), 1, 0, 0, (-1))], .ireturn, 1, 0, 0)]
def cd_X8_scoresThrough : List SG := [(0, [(.aload_n 0, 1, 0, 0, 0), (.iload_n 1, 1, 1, 0, 0)], .invokevirtual 75, 3, 93, 1),
  (5, [(.istore_n 2, 1, 2, 0, 0), (.aload_n 0, 1, 0, 0, 0), (.iload_n 2, 1, 2, 0, 0), (.iload_n 2, 1, 2, 0, 0)], .ifCond .eq 21, 3, 5, 2),
  (12, [(.aload_n 0, 1, 0, 0, 0), (.aload_n 0, 1, 0, 0, 0), (.getfield 20, 3, 6, 8, 6), (.iload_n 1, 1, 1, 0, 0), (.iaload, 1, 0, 0, 0)], .invokevirtual 86, 3, 99, 3),
  (22, [(.iconst 3, 1, 0, 0, 3)], .if_icmp .gt 7, 3, 5, 4),
  (26, [(.iconst 1, 1, 0, 0, 1)], .goto 4, 3, 6, 0),
  (30, [(.iconst 0, 1, 0, 0, 0)], .nop, 0, 6, 0),
  (31, [(.iconst 1, 1, 0, 0, 1)], .invokevirtual 67, 3, 91, 7),
  (35, [], .ifCond .ne 5, 3, 9, 8),
  (38, [(.iconst 0, 1, 0, 0, 0)], .ireturn, 1, 0, 0),
  (40, [(.aload_n 0, 1, 0, 0, 0), (.getfield 20, 3, 6, 8, 6), (.iload_n 1, 1, 1, 0, 0), (.iaload, 1, 0, 0, 0), (.istore_n 3, 1, 3, 0, 0), (.iconst 0, 1, 0, 0, 0), (.istore 4, 2, 4, 0, 0), (.iconst 0, 1, 0, 0, 0), (.istore 5, 2, 5, 0, 0)], .nop, 0, 10, 0),
  (53, [(.iload 5, 2, 5, 0, 0), (.bipush 25, 2, 0, 0, 25)], .if_icmp .ge 87, 3, 21, 11),
  (60, [(.iload 5, 2, 5, 0, 0), (.iconst 5, 1, 0, 0, 5), (.idiv, 1, 0, 0, 0), (.iload 5, 2, 5, 0, 0), (.iconst 5, 1, 0, 0, 5), (.irem, 1, 0, 0, 0)], .if_icmp .ge 20, 3, 14, 12),
  (71, [(.iload 5, 2, 5, 0, 0), (.iconst 5, 1, 0, 0, 5), (.irem, 1, 0, 0, 0), (.aload_n 0, 1, 0, 0, 0), (.getfield 17, 3, 5, 8, 5), (.iload_n 3, 1, 3, 0, 0), (.iaload, 1, 0, 0, 0)], .if_icmp .ge 7, 3, 14, 13),
  (84, [(.iconst 1, 1, 0, 0, 1)], .goto 4, 3, 15, 0),
  (88, [(.iconst 0, 1, 0, 0, 0)], .nop, 0, 15, 0),
  (89, [(.istore 6, 2, 6, 0, 0), (.iload 4, 2, 4, 0, 0), (.iload 6, 2, 6, 0, 0)], .ifCond .eq 39, 3, 19, 16),
  (98, [(.aload_n 0, 1, 0, 0, 0), (.aload_n 0, 1, 0, 0, 0), (.getfield 13, 3, 4, 8, 4), (.iload_n 3, 1, 3, 0, 0), (.iaload, 1, 0, 0, 0), (.iload 5, 2, 5, 0, 0), (.iconst 5, 1, 0, 0, 5), (.idiv, 1, 0, 0, 0), (.iadd, 1, 0, 0, 0), (.aload_n 0, 1, 0, 0, 0), (.getfield 13, 3, 4, 8, 4), (.iload_n 3, 1, 3, 0, 0), (.iaload, 1, 0, 0, 0), (.iload 5, 2, 5, 0, 0), (.iconst 5, 1, 0, 0, 5), (.irem, 1, 0, 0, 0), (.iadd, 1, 0, 0, 0)], .invokevirtual 71, 3, 97, 17),
  (124, [], .ifCond .ne 10, 3, 19, 18),
  (127, [(.iconst 1, 1, 0, 0, 1), (.iload 5, 2, 5, 0, 0), (.ishl, 1, 0, 0, 0)], .goto 4, 3, 20, 0),
  (134, [(.iconst 0, 1, 0, 0, 0)], .nop, 0, 20, 0),
  (135, [(.ior, 1, 0, 0, 0), (.istore 4, 2, 4, 0, 0), (.iinc 5 1, 3, 5, 0, 1)], .goto (-88), 3, 10, 0),
  (144, [(.aload_n 0, 1, 0, 0, 0), (.iload_n 3, 1, 3, 0, 0)], .invokevirtual 140, 3, 134, 22),
  (149, [(.aload_n 0, 1, 0, 0, 0), (.iload_n 3, 1, 3, 0, 0)], .invokevirtual 140, 3, 134, 23),
  (154, [(.imul, 1, 0, 0, 0), (.istore 5, 2, 5, 0, 0), (.iconst 0, 1, 0, 0, 0), (.istore 6, 2, 6, 0, 0), (.iconst 0, 1, 0, 0, 0), (.istore 7, 2, 7, 0, 0)], .nop, 0, 24, 0),
  (163, [(.iload 7, 2, 7, 0, 0), (.iload 5, 2, 5, 0, 0)], .if_icmp .ge 105, 3, 36, 25),
  (170, [(.iload 7, 2, 7, 0, 0), (.istore 8, 2, 8, 0, 0), (.iconst 0, 1, 0, 0, 0), (.istore 9, 2, 9, 0, 0)], .nop, 0, 26, 0),
  (177, [(.iload 9, 2, 9, 0, 0), (.bipush 25, 2, 0, 0, 25)], .if_icmp .ge 63, 3, 31, 27),
  (184, [(.iload 4, 2, 4, 0, 0), (.iload 9, 2, 9, 0, 0), (.ishr, 1, 0, 0, 0), (.iconst 1, 1, 0, 0, 1), (.iand, 1, 0, 0, 0), (.iconst 1, 1, 0, 0, 1)], .if_icmp .ne 46, 3, 30, 28),
  (195, [(.aload_n 0, 1, 0, 0, 0), (.aload_n 0, 1, 0, 0, 0), (.getfield 13, 3, 4, 8, 4), (.iload_n 3, 1, 3, 0, 0), (.iaload, 1, 0, 0, 0), (.iload 9, 2, 9, 0, 0), (.iconst 5, 1, 0, 0, 5), (.idiv, 1, 0, 0, 0), (.iadd, 1, 0, 0, 0), (.aload_n 0, 1, 0, 0, 0), (.getfield 13, 3, 4, 8, 4), (.iload_n 3, 1, 3, 0, 0), (.iaload, 1, 0, 0, 0), (.iload 9, 2, 9, 0, 0), (.iconst 5, 1, 0, 0, 5), (.irem, 1, 0, 0, 0), (.iadd, 1, 0, 0, 0), (.iload 8, 2, 8, 0, 0), (.iconst 3, 1, 0, 0, 3), (.irem, 1, 0, 0, 0), (.iload 8, 2, 8, 0, 0), (.iconst 3, 1, 0, 0, 3), (.idiv, 1, 0, 0, 0), (.iconst 3, 1, 0, 0, 3), (.irem, 1, 0, 0, 0)], .invokevirtual 82, 3, 100, 29),
  (231, [(.iload 8, 2, 8, 0, 0), (.bipush 9, 2, 0, 0, 9), (.idiv, 1, 0, 0, 0), (.istore 8, 2, 8, 0, 0)], .nop, 0, 30, 0),
  (238, [(.iinc 9 1, 3, 9, 0, 1)], .goto (-64), 3, 26, 0),
  (244, [(.iload 6, 2, 6, 0, 0), (.aload_n 0, 1, 0, 0, 0), (.iload_n 1, 1, 1, 0, 0)], .invokevirtual 119, 3, 114, 32),
  (251, [(.aload_n 0, 1, 0, 0, 0), (.getfield 7, 3, 2, 8, 2)], .if_icmp .ge 7, 3, 34, 33),
  (258, [(.iconst 1, 1, 0, 0, 1)], .goto 4, 3, 35, 0),
  (262, [(.iconst 0, 1, 0, 0, 0)], .nop, 0, 35, 0),
  (263, [(.iadd, 1, 0, 0, 0), (.istore 6, 2, 6, 0, 0), (.iinc 7 1, 3, 7, 0, 1)], .goto (-106), 3, 24, 0),
  (272, [(.iconst 0, 1, 0, 0, 0), (.istore 7, 2, 7, 0, 0)], .nop, 0, 37, 0),
  (275, [(.iload 7, 2, 7, 0, 0), (.bipush 25, 2, 0, 0, 25)], .if_icmp .ge 48, 3, 41, 38),
  (282, [(.iload 4, 2, 4, 0, 0), (.iload 7, 2, 7, 0, 0), (.ishr, 1, 0, 0, 0), (.iconst 1, 1, 0, 0, 1), (.iand, 1, 0, 0, 0), (.iconst 1, 1, 0, 0, 1)], .if_icmp .ne 31, 3, 40, 39),
  (293, [(.aload_n 0, 1, 0, 0, 0), (.aload_n 0, 1, 0, 0, 0), (.getfield 13, 3, 4, 8, 4), (.iload_n 3, 1, 3, 0, 0), (.iaload, 1, 0, 0, 0), (.iload 7, 2, 7, 0, 0), (.iconst 5, 1, 0, 0, 5), (.idiv, 1, 0, 0, 0), (.iadd, 1, 0, 0, 0), (.aload_n 0, 1, 0, 0, 0), (.getfield 13, 3, 4, 8, 4), (.iload_n 3, 1, 3, 0, 0), (.iaload, 1, 0, 0, 0), (.iload 7, 2, 7, 0, 0), (.iconst 5, 1, 0, 0, 5), (.irem, 1, 0, 0, 0), (.iadd, 1, 0, 0, 0), (.iconst (-1), 1, 0, 0, (-1)), (.iconst (-1), 1, 0, 0, (-1))], .invokevirtual 82, 3, 100, 40),
  (321, [(.iinc 7 1, 3, 7, 0, 1)], .goto (-49), 3, 37, 0),
  (327, [(.iload 6, 2, 6, 0, 0)], .ireturn, 1, 0, 0)]
def cd_L_addGroup : List SG := [(0, [(.aload_n 2, 1, 2, 0, 0), (.iconst 0, 1, 0, 0, 0), (.aload_n 0, 1, 0, 0, 0), (.iload_n 1, 1, 1, 0, 0)], .invokevirtual 7, 3, 58, 1),
  (7, [(.i2l, 1, 0, 0, 0), (.lastore, 1, 0, 0, 0)], .goto 9, 3, 4, 0),
  (13, [(.iconst 1, 1, 0, 0, 1)], .ireturn, 1, 0, 0),
  (16, [(.iconst 2, 1, 0, 0, 2)], .ireturn, 1, 0, 0),
  (18, [(.iconst 0, 1, 0, 0, 0)], .ireturn, 1, 0, 0)]
def cd_L_setResult : List SG := [(0, [(.aload 5, 2, 5, 0, 0), (.iconst 0, 1, 0, 0, 0), (.aload_n 0, 1, 0, 0, 0), (.iload_n 1, 1, 1, 0, 0), (.iload_n 2, 1, 2, 0, 0), (.iload_n 3, 1, 3, 0, 0), (.iload 4, 2, 4, 0, 0)], .invokevirtual 17, 3, 59, 1),
  (12, [(.i2l, 1, 0, 0, 0), (.lastore, 1, 0, 0, 0)], .goto 11, 3, 4, 0),
  (19, [(.iconst 1, 1, 0, 0, 1)], .ireturn, 1, 0, 0),
  (23, [(.iconst 2, 1, 0, 0, 2)], .ireturn, 1, 0, 0),
  (25, [(.iconst 0, 1, 0, 0, 0)], .ireturn, 1, 0, 0)]
def cd_L_strike : List SG := [(0, [(.aload_n 3, 1, 3, 0, 0), (.iconst 0, 1, 0, 0, 0), (.aload_n 0, 1, 0, 0, 0), (.iload_n 1, 1, 1, 0, 0), (.iload_n 2, 1, 2, 0, 0)], .invokevirtual 23, 3, 60, 1),
  (8, [(.i2l, 1, 0, 0, 0), (.lastore, 1, 0, 0, 0)], .goto 15, 3, 5, 0),
  (15, [(.iconst 1, 1, 0, 0, 1)], .ireturn, 1, 0, 0),
  (19, [(.iconst 2, 1, 0, 0, 2)], .ireturn, 1, 0, 0),
  (23, [(.iconst 3, 1, 0, 0, 3)], .ireturn, 1, 0, 0),
  (25, [(.iconst 0, 1, 0, 0, 0)], .ireturn, 1, 0, 0)]
def cd_L_takeAway : List SG := [(0, [(.aload_n 3, 1, 3, 0, 0), (.iconst 0, 1, 0, 0, 0), (.aload_n 0, 1, 0, 0, 0), (.iload_n 1, 1, 1, 0, 0), (.iload_n 2, 1, 2, 0, 0)], .invokevirtual 27, 3, 61, 1),
  (8, [(.i2l, 1, 0, 0, 0), (.lastore, 1, 0, 0, 0)], .goto 11, 3, 4, 0),
  (15, [(.iconst 1, 1, 0, 0, 1)], .ireturn, 1, 0, 0),
  (19, [(.iconst 2, 1, 0, 0, 2)], .ireturn, 1, 0, 0),
  (21, [(.iconst 0, 1, 0, 0, 0)], .ireturn, 1, 0, 0)]
def cd_L_setCards : List SG := [(0, [(.aload_n 3, 1, 3, 0, 0), (.iconst 0, 1, 0, 0, 0), (.aload_n 0, 1, 0, 0, 0), (.iload_n 1, 1, 1, 0, 0), (.iload_n 2, 1, 2, 0, 0)], .invokevirtual 30, 3, 62, 1),
  (8, [(.i2l, 1, 0, 0, 0), (.lastore, 1, 0, 0, 0)], .goto 11, 3, 4, 0),
  (15, [(.iconst 1, 1, 0, 0, 1)], .ireturn, 1, 0, 0),
  (19, [(.iconst 2, 1, 0, 0, 2)], .ireturn, 1, 0, 0),
  (21, [(.iconst 0, 1, 0, 0, 0)], .ireturn, 1, 0, 0)]
def cd_L_setLot : List SG := [(0, [(.aload_n 3, 1, 3, 0, 0), (.iconst 0, 1, 0, 0, 0), (.aload_n 0, 1, 0, 0, 0), (.iload_n 1, 1, 1, 0, 0), (.iload_n 2, 1, 2, 0, 0)], .invokevirtual 33, 3, 63, 1),
  (8, [(.i2l, 1, 0, 0, 0), (.lastore, 1, 0, 0, 0)], .goto 11, 3, 4, 0),
  (15, [(.iconst 1, 1, 0, 0, 1)], .ireturn, 1, 0, 0),
  (19, [(.iconst 2, 1, 0, 0, 2)], .ireturn, 1, 0, 0),
  (21, [(.iconst 0, 1, 0, 0, 0)], .ireturn, 1, 0, 0)]
def cd_L_setThrough : List SG := [(0, [(.aload_n 0, 1, 0, 0, 0), (.iload_n 1, 1, 1, 0, 0), (.iload_n 2, 1, 2, 0, 0)], .invokevirtual 36, 3, 64, 1),
  (6, [], .goto 6, 3, 3, 0),
  (10, [(.iconst 1, 1, 0, 0, 1)], .ireturn, 1, 0, 0),
  (12, [(.iconst 0, 1, 0, 0, 0)], .ireturn, 1, 0, 0)]
def cd_L_groupOf : List SG := [(0, [(.aload_n 2, 1, 2, 0, 0), (.iconst 0, 1, 0, 0, 0), (.aload_n 0, 1, 0, 0, 0), (.iload_n 1, 1, 1, 0, 0)], .invokevirtual 40, 3, 67, 1),
  (7, [(.i2l, 1, 0, 0, 0), (.lastore, 1, 0, 0, 0)], .goto 6, 3, 3, 0),
  (13, [(.iconst 1, 1, 0, 0, 1)], .ireturn, 1, 0, 0),
  (15, [(.iconst 0, 1, 0, 0, 0)], .ireturn, 1, 0, 0)]
def cd_L_played : List SG := [(0, [(.aload_n 2, 1, 2, 0, 0), (.iconst 0, 1, 0, 0, 0), (.aload_n 0, 1, 0, 0, 0), (.iload_n 1, 1, 1, 0, 0)], .invokevirtual 43, 3, 68, 1),
  (7, [(.i2l, 1, 0, 0, 0), (.lastore, 1, 0, 0, 0)], .goto 6, 3, 3, 0),
  (13, [(.iconst 1, 1, 0, 0, 1)], .ireturn, 1, 0, 0),
  (15, [(.iconst 0, 1, 0, 0, 0)], .ireturn, 1, 0, 0)]
def cd_L_points : List SG := [(0, [(.aload_n 2, 1, 2, 0, 0), (.iconst 0, 1, 0, 0, 0), (.aload_n 0, 1, 0, 0, 0), (.iload_n 1, 1, 1, 0, 0)], .invokevirtual 46, 3, 69, 1),
  (7, [(.i2l, 1, 0, 0, 0), (.lastore, 1, 0, 0, 0)], .goto 6, 3, 3, 0),
  (13, [(.iconst 1, 1, 0, 0, 1)], .ireturn, 1, 0, 0),
  (15, [(.iconst 0, 1, 0, 0, 0)], .ireturn, 1, 0, 0)]
def cd_L_difference : List SG := [(0, [(.aload_n 2, 1, 2, 0, 0), (.iconst 0, 1, 0, 0, 0), (.aload_n 0, 1, 0, 0, 0), (.iload_n 1, 1, 1, 0, 0)], .invokevirtual 49, 3, 70, 1),
  (7, [(.i2l, 1, 0, 0, 0), (.lastore, 1, 0, 0, 0)], .goto 6, 3, 3, 0),
  (13, [(.iconst 1, 1, 0, 0, 1)], .ireturn, 1, 0, 0),
  (15, [(.iconst 0, 1, 0, 0, 0)], .ireturn, 1, 0, 0)]
def cd_L_goals : List SG := [(0, [(.aload_n 2, 1, 2, 0, 0), (.iconst 0, 1, 0, 0, 0), (.aload_n 0, 1, 0, 0, 0), (.iload_n 1, 1, 1, 0, 0)], .invokevirtual 52, 3, 71, 1),
  (7, [(.i2l, 1, 0, 0, 0), (.lastore, 1, 0, 0, 0)], .goto 6, 3, 3, 0),
  (13, [(.iconst 1, 1, 0, 0, 1)], .ireturn, 1, 0, 0),
  (15, [(.iconst 0, 1, 0, 0, 0)], .ireturn, 1, 0, 0)]
def cd_L_place : List SG := [(0, [(.aload_n 2, 1, 2, 0, 0), (.iconst 0, 1, 0, 0, 0), (.aload_n 0, 1, 0, 0, 0), (.iload_n 1, 1, 1, 0, 0)], .invokevirtual 55, 3, 72, 1),
  (7, [(.i2l, 1, 0, 0, 0), (.lastore, 1, 0, 0, 0)], .goto 6, 3, 3, 0),
  (13, [(.iconst 1, 1, 0, 0, 1)], .ireturn, 1, 0, 0),
  (15, [(.iconst 0, 1, 0, 0, 0)], .ireturn, 1, 0, 0)]
def cd_L_teamAt : List SG := [(0, [(.aload_n 3, 1, 3, 0, 0), (.iconst 0, 1, 0, 0, 0), (.aload_n 0, 1, 0, 0, 0), (.iload_n 1, 1, 1, 0, 0), (.iload_n 2, 1, 2, 0, 0)], .invokevirtual 58, 3, 73, 1),
  (8, [(.i2l, 1, 0, 0, 0), (.lastore, 1, 0, 0, 0)], .goto 7, 3, 3, 0),
  (15, [(.iconst 1, 1, 0, 0, 1)], .ireturn, 1, 0, 0),
  (17, [(.iconst 0, 1, 0, 0, 0)], .ireturn, 1, 0, 0)]
def cd_L_rule : List SG := [(0, [(.aload_n 3, 1, 3, 0, 0), (.iconst 0, 1, 0, 0, 0), (.aload_n 0, 1, 0, 0, 0), (.iload_n 1, 1, 1, 0, 0), (.iload_n 2, 1, 2, 0, 0)], .invokevirtual 61, 3, 74, 1),
  (8, [(.i2l, 1, 0, 0, 0), (.lastore, 1, 0, 0, 0)], .goto 11, 3, 4, 0),
  (15, [(.iconst 1, 1, 0, 0, 1)], .ireturn, 1, 0, 0),
  (19, [(.iconst 2, 1, 0, 0, 2)], .ireturn, 1, 0, 0),
  (21, [(.iconst 0, 1, 0, 0, 0)], .ireturn, 1, 0, 0)]
def cd_L_matchesLeft : List SG := [(0, [(.aload_n 2, 1, 2, 0, 0), (.iconst 0, 1, 0, 0, 0), (.aload_n 0, 1, 0, 0, 0), (.iload_n 1, 1, 1, 0, 0)], .invokevirtual 64, 3, 75, 1),
  (7, [(.i2l, 1, 0, 0, 0), (.lastore, 1, 0, 0, 0)], .goto 6, 3, 3, 0),
  (13, [(.iconst 1, 1, 0, 0, 1)], .ireturn, 1, 0, 0),
  (15, [(.iconst 0, 1, 0, 0, 0)], .ireturn, 1, 0, 0)]
def cd_L_thirdPoints : List SG := [(0, [(.aload_n 2, 1, 2, 0, 0), (.iconst 0, 1, 0, 0, 0), (.aload_n 0, 1, 0, 0, 0), (.iload_n 1, 1, 1, 0, 0)], .invokevirtual 67, 3, 76, 1),
  (7, [(.i2l, 1, 0, 0, 0), (.lastore, 1, 0, 0, 0)], .goto 6, 3, 3, 0),
  (13, [(.iconst 1, 1, 0, 0, 1)], .ireturn, 1, 0, 0),
  (15, [(.iconst 0, 1, 0, 0, 0)], .ireturn, 1, 0, 0)]
def cd_L_thirdRank : List SG := [(0, [(.aload_n 2, 1, 2, 0, 0), (.iconst 0, 1, 0, 0, 0), (.aload_n 0, 1, 0, 0, 0), (.iload_n 1, 1, 1, 0, 0)], .invokevirtual 70, 3, 77, 1),
  (7, [(.i2l, 1, 0, 0, 0), (.lastore, 1, 0, 0, 0)], .goto 6, 3, 3, 0),
  (13, [(.iconst 1, 1, 0, 0, 1)], .ireturn, 1, 0, 0),
  (15, [(.iconst 0, 1, 0, 0, 0)], .ireturn, 1, 0, 0)]
def cd_L_isThrough : List SG := [(0, [(.aload_n 2, 1, 2, 0, 0), (.iconst 0, 1, 0, 0, 0), (.aload_n 0, 1, 0, 0, 0), (.iload_n 1, 1, 1, 0, 0)], .invokevirtual 73, 3, 78, 1),
  (7, [], .ifCond .eq 7, 3, 3, 2),
  (10, [(.lconst 1, 1, 0, 0, 1)], .goto 4, 3, 4, 0),
  (14, [(.lconst 0, 1, 0, 0, 0)], .nop, 0, 4, 0),
  (15, [(.lastore, 1, 0, 0, 0)], .goto 6, 3, 6, 0),
  (20, [(.iconst 1, 1, 0, 0, 1)], .ireturn, 1, 0, 0),
  (22, [(.iconst 0, 1, 0, 0, 0)], .ireturn, 1, 0, 0)]
def cd_L_ways : List SG := [(0, [(.aload_n 2, 1, 2, 0, 0), (.iconst 0, 1, 0, 0, 0), (.aload_n 0, 1, 0, 0, 0), (.iload_n 1, 1, 1, 0, 0)], .invokevirtual 77, 3, 79, 1),
  (7, [(.i2l, 1, 0, 0, 0), (.lastore, 1, 0, 0, 0)], .goto 6, 3, 3, 0),
  (13, [(.iconst 1, 1, 0, 0, 1)], .ireturn, 1, 0, 0),
  (15, [(.iconst 0, 1, 0, 0, 0)], .ireturn, 1, 0, 0)]
def cd_L_waysSafe : List SG := [(0, [(.aload_n 2, 1, 2, 0, 0), (.iconst 0, 1, 0, 0, 0), (.aload_n 0, 1, 0, 0, 0), (.iload_n 1, 1, 1, 0, 0)], .invokevirtual 80, 3, 80, 1),
  (7, [(.i2l, 1, 0, 0, 0), (.lastore, 1, 0, 0, 0)], .goto 6, 3, 3, 0),
  (13, [(.iconst 1, 1, 0, 0, 1)], .ireturn, 1, 0, 0),
  (15, [(.iconst 0, 1, 0, 0, 0)], .ireturn, 1, 0, 0)]
def cd_L_waysLost : List SG := [(0, [(.aload_n 2, 1, 2, 0, 0), (.iconst 0, 1, 0, 0, 0), (.aload_n 0, 1, 0, 0, 0), (.iload_n 1, 1, 1, 0, 0)], .invokevirtual 83, 3, 81, 1),
  (7, [(.i2l, 1, 0, 0, 0), (.lastore, 1, 0, 0, 0)], .goto 6, 3, 3, 0),
  (13, [(.iconst 1, 1, 0, 0, 1)], .ireturn, 1, 0, 0),
  (15, [(.iconst 0, 1, 0, 0, 0)], .ireturn, 1, 0, 0)]
def cd_L_badWay : List SG := [(0, [(.aload_n 2, 1, 2, 0, 0), (.iconst 0, 1, 0, 0, 0), (.aload_n 0, 1, 0, 0, 0), (.iload_n 1, 1, 1, 0, 0)], .invokevirtual 86, 3, 82, 1),
  (7, [(.i2l, 1, 0, 0, 0), (.lastore, 1, 0, 0, 0)], .goto 6, 3, 3, 0),
  (13, [(.iconst 1, 1, 0, 0, 1)], .ireturn, 1, 0, 0),
  (15, [(.iconst 0, 1, 0, 0, 0)], .ireturn, 1, 0, 0)]
def cd_L_scoresThrough : List SG := [(0, [(.aload_n 2, 1, 2, 0, 0), (.iconst 0, 1, 0, 0, 0), (.aload_n 0, 1, 0, 0, 0), (.iload_n 1, 1, 1, 0, 0)], .invokevirtual 89, 3, 83, 1),
  (7, [(.i2l, 1, 0, 0, 0), (.lastore, 1, 0, 0, 0)], .goto 9, 3, 4, 0),
  (13, [(.iconst 1, 1, 0, 0, 1)], .ireturn, 1, 0, 0),
  (16, [(.iconst 2, 1, 0, 0, 2)], .ireturn, 1, 0, 0),
  (18, [(.iconst 0, 1, 0, 0, 0)], .ireturn, 1, 0, 0)]
def cd_X7_waysOf : List SG := [(0, [(.iconst 1, 1, 0, 0, 1), (.istore_n 1, 1, 1, 0, 0), (.iconst 0, 1, 0, 0, 0), (.istore_n 2, 1, 2, 0, 0)], .nop, 0, 1, 0),
  (4, [(.iload_n 2, 1, 2, 0, 0), (.iload_n 0, 1, 0, 0, 0)], .if_icmp .ge 13, 3, 3, 2),
  (9, [(.iload_n 1, 1, 1, 0, 0), (.iconst 3, 1, 0, 0, 3), (.imul, 1, 0, 0, 0), (.istore_n 1, 1, 1, 0, 0), (.iinc 2 1, 3, 2, 0, 1)], .goto (-12), 3, 1, 0),
  (19, [(.iload_n 1, 1, 1, 0, 0)], .ireturn, 1, 0, 0)]
def cd_L_law_0 : List SG := [(23, [(.iload 4, 2, 4, 0, 0), (.aload_n 0, 1, 0, 0, 0), (.arraylength, 1, 0, 0, 0), (.iconst 5, 1, 0, 0, 5), (.isub, 1, 0, 0, 0)], .if_icmp .gt 1610, 3, 227, 1),
  (32, [(.aload_n 0, 1, 0, 0, 0), (.iload 4, 2, 4, 0, 0), (.iaload, 1, 0, 0, 0), (.bipush 31, 2, 0, 0, 31), (.iand, 1, 0, 0, 0)], .tableswitch 1594 0 25 #[117, 173, 265, 333, 401, 469, 537, 585, 598, 611, 667, 723, 779, 835, 891, 947, 1015, 1083, 1139, 1195, 1251, 1314, 1370, 1426, 1482, 1538], 117, 0, 0),
  (156, [(.aload_n 1, 1, 1, 0, 0), (.aload_n 0, 1, 0, 0, 0), (.iload 4, 2, 4, 0, 0), (.iconst 1, 1, 0, 0, 1), (.iadd, 1, 0, 0, 0), (.iaload, 1, 0, 0, 0), (.aload_n 3, 1, 3, 0, 0)], .invokestatic 96, 3, 143, 3),
  (167, [(.istore 5, 2, 5, 0, 0), (.aload_n 2, 1, 2, 0, 0), (.aload_n 0, 1, 0, 0, 0), (.iload 4, 2, 4, 0, 0), (.iconst 1, 1, 0, 0, 1), (.iadd, 1, 0, 0, 0), (.iaload, 1, 0, 0, 0)], .invokevirtual 101, 3, 98, 4),
  (179, [(.istore 6, 2, 6, 0, 0), (.aload_n 2, 1, 2, 0, 0)], .invokevirtual 102, 3, 89, 5),
  (185, [(.iload 5, 2, 5, 0, 0)], .if_icmp .eq 5, 3, 7, 6),
  (190, [(.iconst 0, 1, 0, 0, 0)], .ireturn, 1, 1, 0),
  (192, [(.iload 5, 2, 5, 0, 0)], .ifCond .ne 15, 3, 10, 8),
  (197, [(.aload_n 3, 1, 3, 0, 0), (.iconst 0, 1, 0, 0, 0), (.laload, 1, 0, 0, 0), (.iload 6, 2, 6, 0, 0), (.i2l, 1, 0, 0, 0), (.lcmp, 1, 0, 0, 0)], .ifCond .eq 5, 3, 10, 9),
  (207, [(.iconst 0, 1, 0, 0, 0)], .ireturn, 1, 1, 0),
  (209, [], .goto 1424, 3, 226, 0),
  (212, [(.aload_n 1, 1, 1, 0, 0), (.aload_n 0, 1, 0, 0, 0), (.iload 4, 2, 4, 0, 0), (.iconst 1, 1, 0, 0, 1), (.iadd, 1, 0, 0, 0), (.iaload, 1, 0, 0, 0), (.aload_n 0, 1, 0, 0, 0), (.iload 4, 2, 4, 0, 0), (.iconst 2, 1, 0, 0, 2), (.iadd, 1, 0, 0, 0), (.iaload, 1, 0, 0, 0), (.aload_n 0, 1, 0, 0, 0), (.iload 4, 2, 4, 0, 0), (.iconst 3, 1, 0, 0, 3), (.iadd, 1, 0, 0, 0), (.iaload, 1, 0, 0, 0), (.aload_n 0, 1, 0, 0, 0), (.iload 4, 2, 4, 0, 0), (.iconst 4, 1, 0, 0, 4), (.iadd, 1, 0, 0, 0), (.iaload, 1, 0, 0, 0), (.aload_n 3, 1, 3, 0, 0)], .invokestatic 106, 3, 144, 12),
  (241, [(.istore 5, 2, 5, 0, 0), (.aload_n 2, 1, 2, 0, 0), (.aload_n 0, 1, 0, 0, 0), (.iload 4, 2, 4, 0, 0), (.iconst 1, 1, 0, 0, 1), (.iadd, 1, 0, 0, 0), (.iaload, 1, 0, 0, 0), (.aload_n 0, 1, 0, 0, 0), (.iload 4, 2, 4, 0, 0), (.iconst 2, 1, 0, 0, 2), (.iadd, 1, 0, 0, 0), (.iaload, 1, 0, 0, 0), (.aload_n 0, 1, 0, 0, 0), (.iload 4, 2, 4, 0, 0), (.iconst 3, 1, 0, 0, 3), (.iadd, 1, 0, 0, 0), (.iaload, 1, 0, 0, 0), (.aload_n 0, 1, 0, 0, 0), (.iload 4, 2, 4, 0, 0), (.iconst 4, 1, 0, 0, 4), (.iadd, 1, 0, 0, 0), (.iaload, 1, 0, 0, 0)], .invokevirtual 109, 3, 101, 13),
  (271, [(.istore 6, 2, 6, 0, 0), (.aload_n 2, 1, 2, 0, 0)], .invokevirtual 102, 3, 89, 14),
  (277, [(.iload 5, 2, 5, 0, 0)], .if_icmp .eq 5, 3, 16, 15),
  (282, [(.iconst 0, 1, 0, 0, 0)], .ireturn, 1, 1, 0)]
def cd_L_law_1 : List SG := [(284, [(.iload 5, 2, 5, 0, 0)], .ifCond .ne 15, 3, 19, 17),
  (289, [(.aload_n 3, 1, 3, 0, 0), (.iconst 0, 1, 0, 0, 0), (.laload, 1, 0, 0, 0), (.iload 6, 2, 6, 0, 0), (.i2l, 1, 0, 0, 0), (.lcmp, 1, 0, 0, 0)], .ifCond .eq 5, 3, 19, 18),
  (299, [(.iconst 0, 1, 0, 0, 0)], .ireturn, 1, 1, 0),
  (301, [], .goto 1332, 3, 226, 0),
  (304, [(.aload_n 1, 1, 1, 0, 0), (.aload_n 0, 1, 0, 0, 0), (.iload 4, 2, 4, 0, 0), (.iconst 1, 1, 0, 0, 1), (.iadd, 1, 0, 0, 0), (.iaload, 1, 0, 0, 0), (.aload_n 0, 1, 0, 0, 0), (.iload 4, 2, 4, 0, 0), (.iconst 2, 1, 0, 0, 2), (.iadd, 1, 0, 0, 0), (.iaload, 1, 0, 0, 0), (.aload_n 3, 1, 3, 0, 0)], .invokestatic 110, 3, 145, 21),
  (321, [(.istore 5, 2, 5, 0, 0), (.aload_n 2, 1, 2, 0, 0), (.aload_n 0, 1, 0, 0, 0), (.iload 4, 2, 4, 0, 0), (.iconst 1, 1, 0, 0, 1), (.iadd, 1, 0, 0, 0), (.iaload, 1, 0, 0, 0), (.aload_n 0, 1, 0, 0, 0), (.iload 4, 2, 4, 0, 0), (.iconst 2, 1, 0, 0, 2), (.iadd, 1, 0, 0, 0), (.iaload, 1, 0, 0, 0)], .invokevirtual 113, 3, 102, 22),
  (339, [(.istore 6, 2, 6, 0, 0), (.aload_n 2, 1, 2, 0, 0)], .invokevirtual 102, 3, 89, 23),
  (345, [(.iload 5, 2, 5, 0, 0)], .if_icmp .eq 5, 3, 25, 24),
  (350, [(.iconst 0, 1, 0, 0, 0)], .ireturn, 1, 1, 0),
  (352, [(.iload 5, 2, 5, 0, 0)], .ifCond .ne 15, 3, 28, 26),
  (357, [(.aload_n 3, 1, 3, 0, 0), (.iconst 0, 1, 0, 0, 0), (.laload, 1, 0, 0, 0), (.iload 6, 2, 6, 0, 0), (.i2l, 1, 0, 0, 0), (.lcmp, 1, 0, 0, 0)], .ifCond .eq 5, 3, 28, 27),
  (367, [(.iconst 0, 1, 0, 0, 0)], .ireturn, 1, 1, 0),
  (369, [], .goto 1264, 3, 226, 0),
  (372, [(.aload_n 1, 1, 1, 0, 0), (.aload_n 0, 1, 0, 0, 0), (.iload 4, 2, 4, 0, 0), (.iconst 1, 1, 0, 0, 1), (.iadd, 1, 0, 0, 0), (.iaload, 1, 0, 0, 0), (.aload_n 0, 1, 0, 0, 0), (.iload 4, 2, 4, 0, 0), (.iconst 2, 1, 0, 0, 2), (.iadd, 1, 0, 0, 0), (.iaload, 1, 0, 0, 0), (.aload_n 3, 1, 3, 0, 0)], .invokestatic 114, 3, 146, 30),
  (389, [(.istore 5, 2, 5, 0, 0), (.aload_n 2, 1, 2, 0, 0), (.aload_n 0, 1, 0, 0, 0), (.iload 4, 2, 4, 0, 0), (.iconst 1, 1, 0, 0, 1), (.iadd, 1, 0, 0, 0), (.iaload, 1, 0, 0, 0), (.aload_n 0, 1, 0, 0, 0), (.iload 4, 2, 4, 0, 0), (.iconst 2, 1, 0, 0, 2), (.iadd, 1, 0, 0, 0), (.iaload, 1, 0, 0, 0)], .invokevirtual 116, 3, 103, 31),
  (407, [(.istore 6, 2, 6, 0, 0), (.aload_n 2, 1, 2, 0, 0)], .invokevirtual 102, 3, 89, 32)]
def cd_L_law_2 : List SG := [(413, [(.iload 5, 2, 5, 0, 0)], .if_icmp .eq 5, 3, 34, 33),
  (418, [(.iconst 0, 1, 0, 0, 0)], .ireturn, 1, 1, 0),
  (420, [(.iload 5, 2, 5, 0, 0)], .ifCond .ne 15, 3, 37, 35),
  (425, [(.aload_n 3, 1, 3, 0, 0), (.iconst 0, 1, 0, 0, 0), (.laload, 1, 0, 0, 0), (.iload 6, 2, 6, 0, 0), (.i2l, 1, 0, 0, 0), (.lcmp, 1, 0, 0, 0)], .ifCond .eq 5, 3, 37, 36),
  (435, [(.iconst 0, 1, 0, 0, 0)], .ireturn, 1, 1, 0),
  (437, [], .goto 1196, 3, 226, 0),
  (440, [(.aload_n 1, 1, 1, 0, 0), (.aload_n 0, 1, 0, 0, 0), (.iload 4, 2, 4, 0, 0), (.iconst 1, 1, 0, 0, 1), (.iadd, 1, 0, 0, 0), (.iaload, 1, 0, 0, 0), (.aload_n 0, 1, 0, 0, 0), (.iload 4, 2, 4, 0, 0), (.iconst 2, 1, 0, 0, 2), (.iadd, 1, 0, 0, 0), (.iaload, 1, 0, 0, 0), (.aload_n 3, 1, 3, 0, 0)], .invokestatic 117, 3, 147, 39),
  (457, [(.istore 5, 2, 5, 0, 0), (.aload_n 2, 1, 2, 0, 0), (.aload_n 0, 1, 0, 0, 0), (.iload 4, 2, 4, 0, 0), (.iconst 1, 1, 0, 0, 1), (.iadd, 1, 0, 0, 0), (.iaload, 1, 0, 0, 0), (.aload_n 0, 1, 0, 0, 0), (.iload 4, 2, 4, 0, 0), (.iconst 2, 1, 0, 0, 2), (.iadd, 1, 0, 0, 0), (.iaload, 1, 0, 0, 0)], .invokevirtual 119, 3, 104, 40),
  (475, [(.istore 6, 2, 6, 0, 0), (.aload_n 2, 1, 2, 0, 0)], .invokevirtual 102, 3, 89, 41),
  (481, [(.iload 5, 2, 5, 0, 0)], .if_icmp .eq 5, 3, 43, 42),
  (486, [(.iconst 0, 1, 0, 0, 0)], .ireturn, 1, 1, 0),
  (488, [(.iload 5, 2, 5, 0, 0)], .ifCond .ne 15, 3, 46, 44),
  (493, [(.aload_n 3, 1, 3, 0, 0), (.iconst 0, 1, 0, 0, 0), (.laload, 1, 0, 0, 0), (.iload 6, 2, 6, 0, 0), (.i2l, 1, 0, 0, 0), (.lcmp, 1, 0, 0, 0)], .ifCond .eq 5, 3, 46, 45),
  (503, [(.iconst 0, 1, 0, 0, 0)], .ireturn, 1, 1, 0),
  (505, [], .goto 1128, 3, 226, 0),
  (508, [(.aload_n 1, 1, 1, 0, 0), (.aload_n 0, 1, 0, 0, 0), (.iload 4, 2, 4, 0, 0), (.iconst 1, 1, 0, 0, 1), (.iadd, 1, 0, 0, 0), (.iaload, 1, 0, 0, 0), (.aload_n 0, 1, 0, 0, 0), (.iload 4, 2, 4, 0, 0), (.iconst 2, 1, 0, 0, 2), (.iadd, 1, 0, 0, 0), (.iaload, 1, 0, 0, 0), (.aload_n 3, 1, 3, 0, 0)], .invokestatic 120, 3, 148, 48)]
def cd_L_law_3 : List SG := [(525, [(.istore 5, 2, 5, 0, 0), (.aload_n 2, 1, 2, 0, 0), (.aload_n 0, 1, 0, 0, 0), (.iload 4, 2, 4, 0, 0), (.iconst 1, 1, 0, 0, 1), (.iadd, 1, 0, 0, 0), (.iaload, 1, 0, 0, 0), (.aload_n 0, 1, 0, 0, 0), (.iload 4, 2, 4, 0, 0), (.iconst 2, 1, 0, 0, 2), (.iadd, 1, 0, 0, 0), (.iaload, 1, 0, 0, 0)], .invokevirtual 122, 3, 105, 49),
  (543, [(.istore 6, 2, 6, 0, 0), (.aload_n 2, 1, 2, 0, 0)], .invokevirtual 102, 3, 89, 50),
  (549, [(.iload 5, 2, 5, 0, 0)], .if_icmp .eq 5, 3, 52, 51),
  (554, [(.iconst 0, 1, 0, 0, 0)], .ireturn, 1, 1, 0),
  (556, [(.iload 5, 2, 5, 0, 0)], .ifCond .ne 15, 3, 55, 53),
  (561, [(.aload_n 3, 1, 3, 0, 0), (.iconst 0, 1, 0, 0, 0), (.laload, 1, 0, 0, 0), (.iload 6, 2, 6, 0, 0), (.i2l, 1, 0, 0, 0), (.lcmp, 1, 0, 0, 0)], .ifCond .eq 5, 3, 55, 54),
  (571, [(.iconst 0, 1, 0, 0, 0)], .ireturn, 1, 1, 0),
  (573, [], .goto 1060, 3, 226, 0),
  (576, [(.aload_n 1, 1, 1, 0, 0), (.aload_n 0, 1, 0, 0, 0), (.iload 4, 2, 4, 0, 0), (.iconst 1, 1, 0, 0, 1), (.iadd, 1, 0, 0, 0), (.iaload, 1, 0, 0, 0), (.aload_n 0, 1, 0, 0, 0), (.iload 4, 2, 4, 0, 0), (.iconst 2, 1, 0, 0, 2), (.iadd, 1, 0, 0, 0), (.iaload, 1, 0, 0, 0)], .invokestatic 123, 3, 149, 57),
  (592, [(.istore 5, 2, 5, 0, 0), (.aload_n 2, 1, 2, 0, 0), (.aload_n 0, 1, 0, 0, 0), (.iload 4, 2, 4, 0, 0), (.iconst 1, 1, 0, 0, 1), (.iadd, 1, 0, 0, 0), (.iaload, 1, 0, 0, 0), (.aload_n 0, 1, 0, 0, 0), (.iload 4, 2, 4, 0, 0), (.iconst 2, 1, 0, 0, 2), (.iadd, 1, 0, 0, 0), (.iaload, 1, 0, 0, 0)], .invokevirtual 126, 3, 106, 58),
  (610, [(.aload_n 2, 1, 2, 0, 0)], .invokevirtual 102, 3, 89, 59),
  (614, [(.iload 5, 2, 5, 0, 0)], .if_icmp .eq 5, 3, 61, 60),
  (619, [(.iconst 0, 1, 0, 0, 0)], .ireturn, 1, 1, 0),
  (621, [], .goto 1012, 3, 226, 0),
  (624, [(.aload_n 1, 1, 1, 0, 0)], .invokevirtual 127, 3, 65, 63),
  (628, [(.aload_n 2, 1, 2, 0, 0)], .invokevirtual 130, 3, 116, 64)]
def cd_L_law_4 : List SG := [(632, [], .if_icmp .eq 1001, 3, 226, 65),
  (635, [(.iconst 0, 1, 0, 0, 0)], .ireturn, 1, 1, 0),
  (637, [(.aload_n 1, 1, 1, 0, 0)], .invokevirtual 131, 3, 66, 67),
  (641, [(.aload_n 2, 1, 2, 0, 0)], .invokevirtual 134, 3, 117, 68),
  (645, [], .if_icmp .eq 988, 3, 226, 69),
  (648, [(.iconst 0, 1, 0, 0, 0)], .ireturn, 1, 1, 0),
  (650, [(.aload_n 1, 1, 1, 0, 0), (.aload_n 0, 1, 0, 0, 0), (.iload 4, 2, 4, 0, 0), (.iconst 1, 1, 0, 0, 1), (.iadd, 1, 0, 0, 0), (.iaload, 1, 0, 0, 0), (.aload_n 3, 1, 3, 0, 0)], .invokestatic 135, 3, 150, 71),
  (661, [(.istore 5, 2, 5, 0, 0), (.aload_n 2, 1, 2, 0, 0), (.aload_n 0, 1, 0, 0, 0), (.iload 4, 2, 4, 0, 0), (.iconst 1, 1, 0, 0, 1), (.iadd, 1, 0, 0, 0), (.iaload, 1, 0, 0, 0)], .invokevirtual 137, 3, 118, 72),
  (673, [(.istore 6, 2, 6, 0, 0), (.aload_n 2, 1, 2, 0, 0)], .invokevirtual 102, 3, 89, 73),
  (679, [(.iload 5, 2, 5, 0, 0)], .if_icmp .eq 5, 3, 75, 74),
  (684, [(.iconst 0, 1, 0, 0, 0)], .ireturn, 1, 1, 0),
  (686, [(.iload 5, 2, 5, 0, 0)], .ifCond .ne 15, 3, 78, 76),
  (691, [(.aload_n 3, 1, 3, 0, 0), (.iconst 0, 1, 0, 0, 0), (.laload, 1, 0, 0, 0), (.iload 6, 2, 6, 0, 0), (.i2l, 1, 0, 0, 0), (.lcmp, 1, 0, 0, 0)], .ifCond .eq 5, 3, 78, 77),
  (701, [(.iconst 0, 1, 0, 0, 0)], .ireturn, 1, 1, 0),
  (703, [], .goto 930, 3, 226, 0),
  (706, [(.aload_n 1, 1, 1, 0, 0), (.aload_n 0, 1, 0, 0, 0), (.iload 4, 2, 4, 0, 0), (.iconst 1, 1, 0, 0, 1), (.iadd, 1, 0, 0, 0), (.iaload, 1, 0, 0, 0), (.aload_n 3, 1, 3, 0, 0)], .invokestatic 138, 3, 151, 80)]
def cd_L_law_5 : List SG := [(717, [(.istore 5, 2, 5, 0, 0), (.aload_n 2, 1, 2, 0, 0), (.aload_n 0, 1, 0, 0, 0), (.iload 4, 2, 4, 0, 0), (.iconst 1, 1, 0, 0, 1), (.iadd, 1, 0, 0, 0), (.iaload, 1, 0, 0, 0)], .invokevirtual 140, 3, 119, 81),
  (729, [(.istore 6, 2, 6, 0, 0), (.aload_n 2, 1, 2, 0, 0)], .invokevirtual 102, 3, 89, 82),
  (735, [(.iload 5, 2, 5, 0, 0)], .if_icmp .eq 5, 3, 84, 83),
  (740, [(.iconst 0, 1, 0, 0, 0)], .ireturn, 1, 1, 0),
  (742, [(.iload 5, 2, 5, 0, 0)], .ifCond .ne 15, 3, 87, 85),
  (747, [(.aload_n 3, 1, 3, 0, 0), (.iconst 0, 1, 0, 0, 0), (.laload, 1, 0, 0, 0), (.iload 6, 2, 6, 0, 0), (.i2l, 1, 0, 0, 0), (.lcmp, 1, 0, 0, 0)], .ifCond .eq 5, 3, 87, 86),
  (757, [(.iconst 0, 1, 0, 0, 0)], .ireturn, 1, 1, 0),
  (759, [], .goto 874, 3, 226, 0),
  (762, [(.aload_n 1, 1, 1, 0, 0), (.aload_n 0, 1, 0, 0, 0), (.iload 4, 2, 4, 0, 0), (.iconst 1, 1, 0, 0, 1), (.iadd, 1, 0, 0, 0), (.iaload, 1, 0, 0, 0), (.aload_n 3, 1, 3, 0, 0)], .invokestatic 141, 3, 152, 89),
  (773, [(.istore 5, 2, 5, 0, 0), (.aload_n 2, 1, 2, 0, 0), (.aload_n 0, 1, 0, 0, 0), (.iload 4, 2, 4, 0, 0), (.iconst 1, 1, 0, 0, 1), (.iadd, 1, 0, 0, 0), (.iaload, 1, 0, 0, 0)], .invokevirtual 143, 3, 120, 90),
  (785, [(.istore 6, 2, 6, 0, 0), (.aload_n 2, 1, 2, 0, 0)], .invokevirtual 102, 3, 89, 91),
  (791, [(.iload 5, 2, 5, 0, 0)], .if_icmp .eq 5, 3, 93, 92),
  (796, [(.iconst 0, 1, 0, 0, 0)], .ireturn, 1, 1, 0),
  (798, [(.iload 5, 2, 5, 0, 0)], .ifCond .ne 15, 3, 96, 94),
  (803, [(.aload_n 3, 1, 3, 0, 0), (.iconst 0, 1, 0, 0, 0), (.laload, 1, 0, 0, 0), (.iload 6, 2, 6, 0, 0), (.i2l, 1, 0, 0, 0), (.lcmp, 1, 0, 0, 0)], .ifCond .eq 5, 3, 96, 95),
  (813, [(.iconst 0, 1, 0, 0, 0)], .ireturn, 1, 1, 0)]
def cd_L_law_6 : List SG := [(815, [], .goto 818, 3, 226, 0),
  (818, [(.aload_n 1, 1, 1, 0, 0), (.aload_n 0, 1, 0, 0, 0), (.iload 4, 2, 4, 0, 0), (.iconst 1, 1, 0, 0, 1), (.iadd, 1, 0, 0, 0), (.iaload, 1, 0, 0, 0), (.aload_n 3, 1, 3, 0, 0)], .invokestatic 144, 3, 153, 98),
  (829, [(.istore 5, 2, 5, 0, 0), (.aload_n 2, 1, 2, 0, 0), (.aload_n 0, 1, 0, 0, 0), (.iload 4, 2, 4, 0, 0), (.iconst 1, 1, 0, 0, 1), (.iadd, 1, 0, 0, 0), (.iaload, 1, 0, 0, 0)], .invokevirtual 146, 3, 121, 99),
  (841, [(.istore 6, 2, 6, 0, 0), (.aload_n 2, 1, 2, 0, 0)], .invokevirtual 102, 3, 89, 100),
  (847, [(.iload 5, 2, 5, 0, 0)], .if_icmp .eq 5, 3, 102, 101),
  (852, [(.iconst 0, 1, 0, 0, 0)], .ireturn, 1, 1, 0),
  (854, [(.iload 5, 2, 5, 0, 0)], .ifCond .ne 15, 3, 105, 103),
  (859, [(.aload_n 3, 1, 3, 0, 0), (.iconst 0, 1, 0, 0, 0), (.laload, 1, 0, 0, 0), (.iload 6, 2, 6, 0, 0), (.i2l, 1, 0, 0, 0), (.lcmp, 1, 0, 0, 0)], .ifCond .eq 5, 3, 105, 104),
  (869, [(.iconst 0, 1, 0, 0, 0)], .ireturn, 1, 1, 0),
  (871, [], .goto 762, 3, 226, 0),
  (874, [(.aload_n 1, 1, 1, 0, 0), (.aload_n 0, 1, 0, 0, 0), (.iload 4, 2, 4, 0, 0), (.iconst 1, 1, 0, 0, 1), (.iadd, 1, 0, 0, 0), (.iaload, 1, 0, 0, 0), (.aload_n 3, 1, 3, 0, 0)], .invokestatic 147, 3, 154, 107),
  (885, [(.istore 5, 2, 5, 0, 0), (.aload_n 2, 1, 2, 0, 0), (.aload_n 0, 1, 0, 0, 0), (.iload 4, 2, 4, 0, 0), (.iconst 1, 1, 0, 0, 1), (.iadd, 1, 0, 0, 0), (.iaload, 1, 0, 0, 0)], .invokevirtual 149, 3, 122, 108),
  (897, [(.istore 6, 2, 6, 0, 0), (.aload_n 2, 1, 2, 0, 0)], .invokevirtual 102, 3, 89, 109),
  (903, [(.iload 5, 2, 5, 0, 0)], .if_icmp .eq 5, 3, 111, 110),
  (908, [(.iconst 0, 1, 0, 0, 0)], .ireturn, 1, 1, 0),
  (910, [(.iload 5, 2, 5, 0, 0)], .ifCond .ne 15, 3, 114, 112)]
def cd_L_law_7 : List SG := [(915, [(.aload_n 3, 1, 3, 0, 0), (.iconst 0, 1, 0, 0, 0), (.laload, 1, 0, 0, 0), (.iload 6, 2, 6, 0, 0), (.i2l, 1, 0, 0, 0), (.lcmp, 1, 0, 0, 0)], .ifCond .eq 5, 3, 114, 113),
  (925, [(.iconst 0, 1, 0, 0, 0)], .ireturn, 1, 1, 0),
  (927, [], .goto 706, 3, 226, 0),
  (930, [(.aload_n 1, 1, 1, 0, 0), (.aload_n 0, 1, 0, 0, 0), (.iload 4, 2, 4, 0, 0), (.iconst 1, 1, 0, 0, 1), (.iadd, 1, 0, 0, 0), (.iaload, 1, 0, 0, 0), (.aload_n 3, 1, 3, 0, 0)], .invokestatic 150, 3, 155, 116),
  (941, [(.istore 5, 2, 5, 0, 0), (.aload_n 2, 1, 2, 0, 0), (.aload_n 0, 1, 0, 0, 0), (.iload 4, 2, 4, 0, 0), (.iconst 1, 1, 0, 0, 1), (.iadd, 1, 0, 0, 0), (.iaload, 1, 0, 0, 0)], .invokevirtual 152, 3, 123, 117),
  (953, [(.istore 6, 2, 6, 0, 0), (.aload_n 2, 1, 2, 0, 0)], .invokevirtual 102, 3, 89, 118),
  (959, [(.iload 5, 2, 5, 0, 0)], .if_icmp .eq 5, 3, 120, 119),
  (964, [(.iconst 0, 1, 0, 0, 0)], .ireturn, 1, 1, 0),
  (966, [(.iload 5, 2, 5, 0, 0)], .ifCond .ne 15, 3, 123, 121),
  (971, [(.aload_n 3, 1, 3, 0, 0), (.iconst 0, 1, 0, 0, 0), (.laload, 1, 0, 0, 0), (.iload 6, 2, 6, 0, 0), (.i2l, 1, 0, 0, 0), (.lcmp, 1, 0, 0, 0)], .ifCond .eq 5, 3, 123, 122),
  (981, [(.iconst 0, 1, 0, 0, 0)], .ireturn, 1, 1, 0),
  (983, [], .goto 650, 3, 226, 0),
  (986, [(.aload_n 1, 1, 1, 0, 0), (.aload_n 0, 1, 0, 0, 0), (.iload 4, 2, 4, 0, 0), (.iconst 1, 1, 0, 0, 1), (.iadd, 1, 0, 0, 0), (.iaload, 1, 0, 0, 0), (.aload_n 0, 1, 0, 0, 0), (.iload 4, 2, 4, 0, 0), (.iconst 2, 1, 0, 0, 2), (.iadd, 1, 0, 0, 0), (.iaload, 1, 0, 0, 0), (.aload_n 3, 1, 3, 0, 0)], .invokestatic 153, 3, 156, 125),
  (1003, [(.istore 5, 2, 5, 0, 0), (.aload_n 2, 1, 2, 0, 0), (.aload_n 0, 1, 0, 0, 0), (.iload 4, 2, 4, 0, 0), (.iconst 1, 1, 0, 0, 1), (.iadd, 1, 0, 0, 0), (.iaload, 1, 0, 0, 0), (.aload_n 0, 1, 0, 0, 0), (.iload 4, 2, 4, 0, 0), (.iconst 2, 1, 0, 0, 2), (.iadd, 1, 0, 0, 0), (.iaload, 1, 0, 0, 0)], .invokevirtual 155, 3, 124, 126),
  (1021, [(.istore 6, 2, 6, 0, 0), (.aload_n 2, 1, 2, 0, 0)], .invokevirtual 102, 3, 89, 127),
  (1027, [(.iload 5, 2, 5, 0, 0)], .if_icmp .eq 5, 3, 129, 128)]
def cd_L_law_8 : List SG := [(1032, [(.iconst 0, 1, 0, 0, 0)], .ireturn, 1, 1, 0),
  (1034, [(.iload 5, 2, 5, 0, 0)], .ifCond .ne 15, 3, 132, 130),
  (1039, [(.aload_n 3, 1, 3, 0, 0), (.iconst 0, 1, 0, 0, 0), (.laload, 1, 0, 0, 0), (.iload 6, 2, 6, 0, 0), (.i2l, 1, 0, 0, 0), (.lcmp, 1, 0, 0, 0)], .ifCond .eq 5, 3, 132, 131),
  (1049, [(.iconst 0, 1, 0, 0, 0)], .ireturn, 1, 1, 0),
  (1051, [], .goto 582, 3, 226, 0),
  (1054, [(.aload_n 1, 1, 1, 0, 0), (.aload_n 0, 1, 0, 0, 0), (.iload 4, 2, 4, 0, 0), (.iconst 1, 1, 0, 0, 1), (.iadd, 1, 0, 0, 0), (.iaload, 1, 0, 0, 0), (.aload_n 0, 1, 0, 0, 0), (.iload 4, 2, 4, 0, 0), (.iconst 2, 1, 0, 0, 2), (.iadd, 1, 0, 0, 0), (.iaload, 1, 0, 0, 0), (.aload_n 3, 1, 3, 0, 0)], .invokestatic 156, 3, 157, 134),
  (1071, [(.istore 5, 2, 5, 0, 0), (.aload_n 2, 1, 2, 0, 0), (.aload_n 0, 1, 0, 0, 0), (.iload 4, 2, 4, 0, 0), (.iconst 1, 1, 0, 0, 1), (.iadd, 1, 0, 0, 0), (.iaload, 1, 0, 0, 0), (.aload_n 0, 1, 0, 0, 0), (.iload 4, 2, 4, 0, 0), (.iconst 2, 1, 0, 0, 2), (.iadd, 1, 0, 0, 0), (.iaload, 1, 0, 0, 0)], .invokevirtual 158, 3, 125, 135),
  (1089, [(.istore 6, 2, 6, 0, 0), (.aload_n 2, 1, 2, 0, 0)], .invokevirtual 102, 3, 89, 136),
  (1095, [(.iload 5, 2, 5, 0, 0)], .if_icmp .eq 5, 3, 138, 137),
  (1100, [(.iconst 0, 1, 0, 0, 0)], .ireturn, 1, 1, 0),
  (1102, [(.iload 5, 2, 5, 0, 0)], .ifCond .ne 15, 3, 141, 139),
  (1107, [(.aload_n 3, 1, 3, 0, 0), (.iconst 0, 1, 0, 0, 0), (.laload, 1, 0, 0, 0), (.iload 6, 2, 6, 0, 0), (.i2l, 1, 0, 0, 0), (.lcmp, 1, 0, 0, 0)], .ifCond .eq 5, 3, 141, 140),
  (1117, [(.iconst 0, 1, 0, 0, 0)], .ireturn, 1, 1, 0),
  (1119, [], .goto 514, 3, 226, 0),
  (1122, [(.aload_n 1, 1, 1, 0, 0), (.aload_n 0, 1, 0, 0, 0), (.iload 4, 2, 4, 0, 0), (.iconst 1, 1, 0, 0, 1), (.iadd, 1, 0, 0, 0), (.iaload, 1, 0, 0, 0), (.aload_n 3, 1, 3, 0, 0)], .invokestatic 159, 3, 158, 143),
  (1133, [(.istore 5, 2, 5, 0, 0), (.aload_n 2, 1, 2, 0, 0), (.aload_n 0, 1, 0, 0, 0), (.iload 4, 2, 4, 0, 0), (.iconst 1, 1, 0, 0, 1), (.iadd, 1, 0, 0, 0), (.iaload, 1, 0, 0, 0)], .invokevirtual 161, 3, 126, 144)]
def cd_L_law_9 : List SG := [(1145, [(.istore 6, 2, 6, 0, 0), (.aload_n 2, 1, 2, 0, 0)], .invokevirtual 102, 3, 89, 145),
  (1151, [(.iload 5, 2, 5, 0, 0)], .if_icmp .eq 5, 3, 147, 146),
  (1156, [(.iconst 0, 1, 0, 0, 0)], .ireturn, 1, 1, 0),
  (1158, [(.iload 5, 2, 5, 0, 0)], .ifCond .ne 15, 3, 150, 148),
  (1163, [(.aload_n 3, 1, 3, 0, 0), (.iconst 0, 1, 0, 0, 0), (.laload, 1, 0, 0, 0), (.iload 6, 2, 6, 0, 0), (.i2l, 1, 0, 0, 0), (.lcmp, 1, 0, 0, 0)], .ifCond .eq 5, 3, 150, 149),
  (1173, [(.iconst 0, 1, 0, 0, 0)], .ireturn, 1, 1, 0),
  (1175, [], .goto 458, 3, 226, 0),
  (1178, [(.aload_n 1, 1, 1, 0, 0), (.aload_n 0, 1, 0, 0, 0), (.iload 4, 2, 4, 0, 0), (.iconst 1, 1, 0, 0, 1), (.iadd, 1, 0, 0, 0), (.iaload, 1, 0, 0, 0), (.aload_n 3, 1, 3, 0, 0)], .invokestatic 162, 3, 159, 152),
  (1189, [(.istore 5, 2, 5, 0, 0), (.aload_n 2, 1, 2, 0, 0), (.aload_n 0, 1, 0, 0, 0), (.iload 4, 2, 4, 0, 0), (.iconst 1, 1, 0, 0, 1), (.iadd, 1, 0, 0, 0), (.iaload, 1, 0, 0, 0)], .invokevirtual 164, 3, 131, 153),
  (1201, [(.istore 6, 2, 6, 0, 0), (.aload_n 2, 1, 2, 0, 0)], .invokevirtual 102, 3, 89, 154),
  (1207, [(.iload 5, 2, 5, 0, 0)], .if_icmp .eq 5, 3, 156, 155),
  (1212, [(.iconst 0, 1, 0, 0, 0)], .ireturn, 1, 1, 0),
  (1214, [(.iload 5, 2, 5, 0, 0)], .ifCond .ne 15, 3, 159, 157),
  (1219, [(.aload_n 3, 1, 3, 0, 0), (.iconst 0, 1, 0, 0, 0), (.laload, 1, 0, 0, 0), (.iload 6, 2, 6, 0, 0), (.i2l, 1, 0, 0, 0), (.lcmp, 1, 0, 0, 0)], .ifCond .eq 5, 3, 159, 158),
  (1229, [(.iconst 0, 1, 0, 0, 0)], .ireturn, 1, 1, 0),
  (1231, [], .goto 402, 3, 226, 0)]
def cd_L_law_10 : List SG := [(1234, [(.aload_n 1, 1, 1, 0, 0), (.aload_n 0, 1, 0, 0, 0), (.iload 4, 2, 4, 0, 0), (.iconst 1, 1, 0, 0, 1), (.iadd, 1, 0, 0, 0), (.iaload, 1, 0, 0, 0), (.aload_n 3, 1, 3, 0, 0)], .invokestatic 165, 3, 160, 161),
  (1245, [(.istore 5, 2, 5, 0, 0), (.aload_n 2, 1, 2, 0, 0), (.aload_n 0, 1, 0, 0, 0), (.iload 4, 2, 4, 0, 0), (.iconst 1, 1, 0, 0, 1), (.iadd, 1, 0, 0, 0), (.iaload, 1, 0, 0, 0)], .invokevirtual 167, 3, 132, 162),
  (1257, [(.istore 6, 2, 6, 0, 0), (.aload_n 2, 1, 2, 0, 0)], .invokevirtual 102, 3, 89, 163),
  (1263, [(.iload 5, 2, 5, 0, 0)], .if_icmp .eq 5, 3, 165, 164),
  (1268, [(.iconst 0, 1, 0, 0, 0)], .ireturn, 1, 1, 0),
  (1270, [(.iload 5, 2, 5, 0, 0)], .ifCond .ne 15, 3, 168, 166),
  (1275, [(.aload_n 3, 1, 3, 0, 0), (.iconst 0, 1, 0, 0, 0), (.laload, 1, 0, 0, 0), (.iload 6, 2, 6, 0, 0), (.i2l, 1, 0, 0, 0), (.lcmp, 1, 0, 0, 0)], .ifCond .eq 5, 3, 168, 167),
  (1285, [(.iconst 0, 1, 0, 0, 0)], .ireturn, 1, 1, 0),
  (1287, [], .goto 346, 3, 226, 0),
  (1290, [(.aload_n 1, 1, 1, 0, 0), (.aload_n 0, 1, 0, 0, 0), (.iload 4, 2, 4, 0, 0), (.iconst 1, 1, 0, 0, 1), (.iadd, 1, 0, 0, 0), (.iaload, 1, 0, 0, 0), (.aload_n 3, 1, 3, 0, 0)], .invokestatic 168, 3, 161, 170),
  (1301, [(.istore 5, 2, 5, 0, 0), (.aload_n 2, 1, 2, 0, 0), (.aload_n 0, 1, 0, 0, 0), (.iload 4, 2, 4, 0, 0), (.iconst 1, 1, 0, 0, 1), (.iadd, 1, 0, 0, 0), (.iaload, 1, 0, 0, 0)], .invokevirtual 170, 3, 133, 171),
  (1313, [(.istore 6, 2, 6, 0, 0), (.aload_n 2, 1, 2, 0, 0)], .invokevirtual 102, 3, 89, 172),
  (1319, [(.iload 5, 2, 5, 0, 0)], .if_icmp .eq 5, 3, 174, 173),
  (1324, [(.iconst 0, 1, 0, 0, 0)], .ireturn, 1, 1, 0),
  (1326, [(.iload 5, 2, 5, 0, 0)], .ifCond .ne 22, 3, 180, 175),
  (1331, [(.aload_n 3, 1, 3, 0, 0), (.iconst 0, 1, 0, 0, 0), (.laload, 1, 0, 0, 0), (.iload 6, 2, 6, 0, 0)], .ifCond .eq 7, 3, 177, 176)]
def cd_L_law_11 : List SG := [(1339, [(.lconst 1, 1, 0, 0, 1)], .goto 4, 3, 178, 0),
  (1343, [(.lconst 0, 1, 0, 0, 0)], .nop, 0, 178, 0),
  (1344, [(.lcmp, 1, 0, 0, 0)], .ifCond .eq 5, 3, 180, 179),
  (1348, [(.iconst 0, 1, 0, 0, 0)], .ireturn, 1, 1, 0),
  (1350, [], .goto 283, 3, 226, 0),
  (1353, [(.aload_n 1, 1, 1, 0, 0), (.aload_n 0, 1, 0, 0, 0), (.iload 4, 2, 4, 0, 0), (.iconst 1, 1, 0, 0, 1), (.iadd, 1, 0, 0, 0), (.iaload, 1, 0, 0, 0), (.aload_n 3, 1, 3, 0, 0)], .invokestatic 171, 3, 162, 182),
  (1364, [(.istore 5, 2, 5, 0, 0), (.aload_n 2, 1, 2, 0, 0), (.aload_n 0, 1, 0, 0, 0), (.iload 4, 2, 4, 0, 0), (.iconst 1, 1, 0, 0, 1), (.iadd, 1, 0, 0, 0), (.iaload, 1, 0, 0, 0)], .invokevirtual 173, 3, 137, 183),
  (1376, [(.istore 6, 2, 6, 0, 0), (.aload_n 2, 1, 2, 0, 0)], .invokevirtual 102, 3, 89, 184),
  (1382, [(.iload 5, 2, 5, 0, 0)], .if_icmp .eq 5, 3, 186, 185),
  (1387, [(.iconst 0, 1, 0, 0, 0)], .ireturn, 1, 1, 0),
  (1389, [(.iload 5, 2, 5, 0, 0)], .ifCond .ne 15, 3, 189, 187),
  (1394, [(.aload_n 3, 1, 3, 0, 0), (.iconst 0, 1, 0, 0, 0), (.laload, 1, 0, 0, 0), (.iload 6, 2, 6, 0, 0), (.i2l, 1, 0, 0, 0), (.lcmp, 1, 0, 0, 0)], .ifCond .eq 5, 3, 189, 188),
  (1404, [(.iconst 0, 1, 0, 0, 0)], .ireturn, 1, 1, 0),
  (1406, [], .goto 227, 3, 226, 0),
  (1409, [(.aload_n 1, 1, 1, 0, 0), (.aload_n 0, 1, 0, 0, 0), (.iload 4, 2, 4, 0, 0), (.iconst 1, 1, 0, 0, 1), (.iadd, 1, 0, 0, 0), (.iaload, 1, 0, 0, 0), (.aload_n 3, 1, 3, 0, 0)], .invokestatic 174, 3, 163, 191),
  (1420, [(.istore 5, 2, 5, 0, 0), (.aload_n 2, 1, 2, 0, 0), (.aload_n 0, 1, 0, 0, 0), (.iload 4, 2, 4, 0, 0), (.iconst 1, 1, 0, 0, 1), (.iadd, 1, 0, 0, 0), (.iaload, 1, 0, 0, 0)], .invokevirtual 176, 3, 139, 192)]
def cd_L_law_12 : List SG := [(1432, [(.istore 6, 2, 6, 0, 0), (.aload_n 2, 1, 2, 0, 0)], .invokevirtual 102, 3, 89, 193),
  (1438, [(.iload 5, 2, 5, 0, 0)], .if_icmp .eq 5, 3, 195, 194),
  (1443, [(.iconst 0, 1, 0, 0, 0)], .ireturn, 1, 1, 0),
  (1445, [(.iload 5, 2, 5, 0, 0)], .ifCond .ne 15, 3, 198, 196),
  (1450, [(.aload_n 3, 1, 3, 0, 0), (.iconst 0, 1, 0, 0, 0), (.laload, 1, 0, 0, 0), (.iload 6, 2, 6, 0, 0), (.i2l, 1, 0, 0, 0), (.lcmp, 1, 0, 0, 0)], .ifCond .eq 5, 3, 198, 197),
  (1460, [(.iconst 0, 1, 0, 0, 0)], .ireturn, 1, 1, 0),
  (1462, [], .goto 171, 3, 226, 0),
  (1465, [(.aload_n 1, 1, 1, 0, 0), (.aload_n 0, 1, 0, 0, 0), (.iload 4, 2, 4, 0, 0), (.iconst 1, 1, 0, 0, 1), (.iadd, 1, 0, 0, 0), (.iaload, 1, 0, 0, 0), (.aload_n 3, 1, 3, 0, 0)], .invokestatic 177, 3, 164, 200),
  (1476, [(.istore 5, 2, 5, 0, 0), (.aload_n 2, 1, 2, 0, 0), (.aload_n 0, 1, 0, 0, 0), (.iload 4, 2, 4, 0, 0), (.iconst 1, 1, 0, 0, 1), (.iadd, 1, 0, 0, 0), (.iaload, 1, 0, 0, 0)], .invokevirtual 179, 3, 140, 201),
  (1488, [(.istore 6, 2, 6, 0, 0), (.aload_n 2, 1, 2, 0, 0)], .invokevirtual 102, 3, 89, 202),
  (1494, [(.iload 5, 2, 5, 0, 0)], .if_icmp .eq 5, 3, 204, 203),
  (1499, [(.iconst 0, 1, 0, 0, 0)], .ireturn, 1, 1, 0),
  (1501, [(.iload 5, 2, 5, 0, 0)], .ifCond .ne 15, 3, 207, 205),
  (1506, [(.aload_n 3, 1, 3, 0, 0), (.iconst 0, 1, 0, 0, 0), (.laload, 1, 0, 0, 0), (.iload 6, 2, 6, 0, 0), (.i2l, 1, 0, 0, 0), (.lcmp, 1, 0, 0, 0)], .ifCond .eq 5, 3, 207, 206),
  (1516, [(.iconst 0, 1, 0, 0, 0)], .ireturn, 1, 1, 0),
  (1518, [], .goto 115, 3, 226, 0)]
def cd_L_law_13 : List SG := [(1521, [(.aload_n 1, 1, 1, 0, 0), (.aload_n 0, 1, 0, 0, 0), (.iload 4, 2, 4, 0, 0), (.iconst 1, 1, 0, 0, 1), (.iadd, 1, 0, 0, 0), (.iaload, 1, 0, 0, 0), (.aload_n 3, 1, 3, 0, 0)], .invokestatic 180, 3, 165, 209),
  (1532, [(.istore 5, 2, 5, 0, 0), (.aload_n 2, 1, 2, 0, 0), (.aload_n 0, 1, 0, 0, 0), (.iload 4, 2, 4, 0, 0), (.iconst 1, 1, 0, 0, 1), (.iadd, 1, 0, 0, 0), (.iaload, 1, 0, 0, 0)], .invokevirtual 182, 3, 141, 210),
  (1544, [(.istore 6, 2, 6, 0, 0), (.aload_n 2, 1, 2, 0, 0)], .invokevirtual 102, 3, 89, 211),
  (1550, [(.iload 5, 2, 5, 0, 0)], .if_icmp .eq 5, 3, 213, 212),
  (1555, [(.iconst 0, 1, 0, 0, 0)], .ireturn, 1, 1, 0),
  (1557, [(.iload 5, 2, 5, 0, 0)], .ifCond .ne 15, 3, 216, 214),
  (1562, [(.aload_n 3, 1, 3, 0, 0), (.iconst 0, 1, 0, 0, 0), (.laload, 1, 0, 0, 0), (.iload 6, 2, 6, 0, 0), (.i2l, 1, 0, 0, 0), (.lcmp, 1, 0, 0, 0)], .ifCond .eq 5, 3, 216, 215),
  (1572, [(.iconst 0, 1, 0, 0, 0)], .ireturn, 1, 1, 0),
  (1574, [], .goto 59, 3, 226, 0),
  (1577, [(.aload_n 1, 1, 1, 0, 0), (.aload_n 0, 1, 0, 0, 0), (.iload 4, 2, 4, 0, 0), (.iconst 1, 1, 0, 0, 1), (.iadd, 1, 0, 0, 0), (.iaload, 1, 0, 0, 0), (.aload_n 3, 1, 3, 0, 0)], .invokestatic 183, 3, 166, 218),
  (1588, [(.istore 5, 2, 5, 0, 0), (.aload_n 2, 1, 2, 0, 0), (.aload_n 0, 1, 0, 0, 0), (.iload 4, 2, 4, 0, 0), (.iconst 1, 1, 0, 0, 1), (.iadd, 1, 0, 0, 0), (.iaload, 1, 0, 0, 0)], .invokevirtual 185, 3, 142, 219),
  (1600, [(.istore 6, 2, 6, 0, 0), (.aload_n 2, 1, 2, 0, 0)], .invokevirtual 102, 3, 89, 220),
  (1606, [(.iload 5, 2, 5, 0, 0)], .if_icmp .eq 5, 3, 222, 221),
  (1611, [(.iconst 0, 1, 0, 0, 0)], .ireturn, 1, 1, 0),
  (1613, [(.iload 5, 2, 5, 0, 0)], .ifCond .ne 15, 3, 225, 223),
  (1618, [(.aload_n 3, 1, 3, 0, 0), (.iconst 0, 1, 0, 0, 0), (.laload, 1, 0, 0, 0), (.iload 6, 2, 6, 0, 0), (.i2l, 1, 0, 0, 0), (.lcmp, 1, 0, 0, 0)], .ifCond .eq 5, 3, 225, 224)]
def cd_L_law_14 : List SG := [(1628, [(.iconst 0, 1, 0, 0, 0)], .ireturn, 1, 1, 0),
  (1630, [], .goto 3, 3, 226, 0),
  (1633, [(.iinc 4 5, 3, 4, 0, 5)], .goto (-1613), 3, 0, 0),
  (1639, [(.iconst 1, 1, 0, 0, 1)], .ireturn, 1, 1, 0)]
def cd_L_law : List SG := cd_L_law_0 ++ (cd_L_law_1 ++ (cd_L_law_2 ++ (cd_L_law_3 ++ (cd_L_law_4 ++ (cd_L_law_5 ++ (cd_L_law_6 ++ (cd_L_law_7 ++ (cd_L_law_8 ++ (cd_L_law_9 ++ (cd_L_law_10 ++ (cd_L_law_11 ++ (cd_L_law_12 ++ (cd_L_law_13 ++ (cd_L_law_14))))))))))))))
def codeL : List (List SG) := [cd_X0_open, cd_X0_size, cd_X0_hasTeam, cd_X0_seatOf, cd_X0_teamOn, cd_X0_everyone, cd_X0_tell, cd_X0_untell, cd_X0_hasResult, cd_X0_putTaken, cd_X0_putCards, cd_X0_putLot, cd_X0_playedBy, cd_X0_left, cd_X0_pointsOf, cd_X0_takenFrom, cd_X0_pointsFrom, cd_X0_differenceFrom, cd_X0_goalsFrom, cd_X0_cardMark, cd_X0_lotMark, cd_X0_counts, cd_X0_pointsFor, cd_X1_list, cd_X1_listOwnLast, cd_X1_add, cd_X1_lowerOf, cd_X1_upperOf, cd_X2_put, cd_X2_at, cd_X2_firstApart, cd_X2_isBetter, cd_X3_countPassed, cd_X3_firstPassed, cd_X3_open, cd_X3_waysPassed, cd_X3_lowestPassed, cd_X3_play, cd_X3_takeBack, cd_X3_isPassedAnyhow, cd_X3_canBePassed, cd_X4_countThrough, cd_X4_countFrom, cd_X5_draw, cd_X5_seatAt, cd_X5_placeOf, cd_X5_ruleBetween, cd_X5_setOf, cd_X5_settle, cd_X5_markTied, cd_X5_markAll, cd_X5_arrange, cd_X5_noteRule, cd_X5_alikeEnd, cd_X6_measure, cd_X6_pointsOfThird, cd_X6_betterThan, cd_X6_smallestSize, cd_X7_addGroup, cd_X7_setResult, cd_X7_strike, cd_X7_takeAway, cd_X7_setCards, cd_X7_setLot, cd_X7_setThrough, cd_X7_groups, cd_X7_teams, cd_X7_groupOf, cd_X7_played, cd_X7_points, cd_X7_difference, cd_X7_goals, cd_X7_place, cd_X7_teamAt, cd_X7_rule, cd_X7_matchesLeft, cd_X7_thirdPoints, cd_X7_thirdRank, cd_X7_isThrough, cd_X7_ways, cd_X7_waysSafe, cd_X7_waysLost, cd_X7_badWay, cd_X7_scoresThrough, cd_X7_needInRange, cd_X7_needGroup, cd_X7_groupNumber, cd_X7_groupWith, cd_X7_groupOfPair, cd_X8_thrown, cd_X8_in, cd_X8_goes, cd_X8_told, cd_X8_isTeam, cd_X8_isGroup, cd_X8_arePair, cd_X8_at, cd_X8_isPlayed, cd_X8_addGroup, cd_X8_left, cd_X8_lays, cd_X8_setResult, cd_X8_strike, cd_X8_takeAway, cd_X8_setCards, cd_X8_setLot, cd_X8_setThrough, cd_X8_pointsIn, cd_X8_sums, cd_X8_pointsOf, cd_X8_finalRule, cd_X8_tiedRule, cd_X8_splits, cd_X8_orders, cd_X8_placeOf, cd_X8_teamOn, cd_X8_groups, cd_X8_teams, cd_X8_groupOf, cd_X8_played, cd_X8_points, cd_X8_difference, cd_X8_goals, cd_X8_place, cd_X8_teamAt, cd_X8_rule, cd_X8_matchesLeft, cd_X8_counting, cd_X8_thirdSum, cd_X8_isBetter, cd_X8_rankOf, cd_X8_thirdPoints, cd_X8_thirdRank, cd_X8_isThrough, cd_X8_waysOf, cd_X8_plays, cd_X8_before, cd_X8_ways, cd_X8_counts, cd_X8_waysSafe, cd_X8_waysLost, cd_X8_badWay, cd_X8_scoresThrough, cd_L_addGroup, cd_L_setResult, cd_L_strike, cd_L_takeAway, cd_L_setCards, cd_L_setLot, cd_L_setThrough, cd_L_groupOf, cd_L_played, cd_L_points, cd_L_difference, cd_L_goals, cd_L_place, cd_L_teamAt, cd_L_rule, cd_L_matchesLeft, cd_L_thirdPoints, cd_L_thirdRank, cd_L_isThrough, cd_L_ways, cd_L_waysSafe, cd_L_waysLost, cd_L_badWay, cd_L_scoresThrough, cd_X7_waysOf, cd_L_law]
def code9 (y : Nat) : List SG := codeL.getD y []
def Go (sc : SC) : Nat → GoT
  | 0, _, _, _, _, _, _, _, _, _ => False
  | n + 1, d, y, i, L, S, X, o, Z, k => ∃ sg : SG, (code9 y)[i]? = some sg ∧ ∃ (L' S' : List AV) (X' : XT) (P : Prop), sxs sc sg.2.1 L S X = (L', S', X', P) ∧ P ∧ Tm (Go sc n) d y sg.2.2 L' S' X' o Z k
