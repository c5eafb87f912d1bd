/-! THE SMALL MACHINE: what a method's instructions do to a picture of the cells. A cell: numbers of an array (kind 0 int, 1 boolean, 3 byte), or an object's fields (its class's number), or (number 50) the references of a Sheet[]. A reference is a place: below 32 what was there before the law (script, statics, texts), from 32 on what was made since, in the order of its making. -/
abbrev AC : Type := (Nat × List Int32) ⊕ (Nat × List Value)
abbrev AH : Type := List AC
abbrev LoS : Type := List (Option Value)
abbrev QT : Type := Option Value → AH → Prop
abbrev CT : Type := Nat → Nat → Nat → List Value → AH → QT → Prop
abbrev KT : Type := Nat → LoS → List Value → AH → Nat → Nat → Prop
noncomputable def smI (y pc : Nat) : Option RI := ((allT.getD y []).getD pc none)
def smM (y : Nat) : MD := mdL.getD y (yL_law, cL_law, 4, some .boolean, 8, 1, 0)
def mNm (y : Nat) : MethodName := (smM y).1
def mCd (y : Nat) : ByteArray := (smM y).2.1
def mMx (y : Nat) : Nat := (smM y).2.2.1
def mRt (y : Nat) : Option FieldType := (smM y).2.2.2.1
def mCn (y : Nat) : Nat := (smM y).2.2.2.2.1
def mNa (y : Nat) : Nat := (smM y).2.2.2.2.2.1
def mFl (y : Nat) : Nat := (smM y).2.2.2.2.2.2
def roBODIES : List Int32 := [10, 11, 12, 13, 20, 0, 0, 0, 0, 30, 0, 0, 0, 0, 40, 0, 0, 0, 0, 50, 0, 60, 0, 0, 0, 0, 70, 71]
def roB : Nat → List Int32 := fun k => match k with
  | 0 => [104, 99, 115]
  | 1 => [104, 102, 99]
  | 2 => [41]
  | 3 => [124]
  | 4 => [38]
  | 5 => [60, 61, 62]
  | 6 => [43, 45]
  | _ => [42, 47, 37]
def roL (xs : List Int32) : List AC := [.inl (0, xs), .inl (0, [-1, 0, 0, 0, 1, 2, 3]), .inl (0, roBODIES),
  .inr (60, [.ref 11, .int 0]), .inr (60, [.ref 12, .int 0]), .inr (60, [.ref 13, .int 0]), .inr (60, [.ref 14, .int 0]), .inr (60, [.ref 15, .int 0]), .inr (60, [.ref 16, .int 0]), .inr (60, [.ref 17, .int 0]), .inr (60, [.ref 18, .int 0]),
  .inl (3, roB 0), .inl (3, roB 1), .inl (3, roB 2), .inl (3, roB 3), .inl (3, roB 4), .inl (3, roB 5), .inl (3, roB 6), .inl (3, roB 7)]
def smC (xs : List Int32) (h : AH) (p : Nat) : Option AC := if p < 32 then (roL xs)[p]? else h[p - 32]?
-- the stack's top
def pI (st : List Value) (f : Int32 → List Value → Prop) : Prop := match st with
  | .int x :: s => f x s
  | _ => False
def pL (st : List Value) (f : Int64 → List Value → Prop) : Prop := match st with
  | .long x :: s => f x s
  | _ => False
def pR (st : List Value) (f : Nat → List Value → Prop) : Prop := match st with
  | .ref x :: s => f x s
  | _ => False
def c1V (v : Value) : Bool := match v with
  | .int _ => true
  | .ref _ => true
  | .null => true
  | _ => false
def pV (st : List Value) (f : Value → List Value → Prop) : Prop := match st with
  | v :: s => if c1V v = true then f v s else False
  | _ => False
theorem pI_e {st : List Value} {f : Int32 → List Value → Prop} (h : pI st f) : ∃ x s, st = .int x :: s ∧ f x s := by
  unfold pI at h
  split at h
  · exact ⟨_, _, rfl, h⟩
  · exact h.elim
theorem pL_e {st : List Value} {f : Int64 → List Value → Prop} (h : pL st f) : ∃ x s, st = .long x :: s ∧ f x s := by
  unfold pL at h
  split at h
  · exact ⟨_, _, rfl, h⟩
  · exact h.elim
theorem pR_e {st : List Value} {f : Nat → List Value → Prop} (h : pR st f) : ∃ x s, st = .ref x :: s ∧ f x s := by
  unfold pR at h
  split at h
  · exact ⟨_, _, rfl, h⟩
  · exact h.elim
theorem pV_e {st : List Value} {f : Value → List Value → Prop} (h : pV st f) : ∃ v s, st = v :: s ∧ c1V v = true ∧ f v s := by
  unfold pV at h
  split at h
  · split at h
    · exact ⟨_, _, rfl, by assumption, h⟩
    · exact h.elim
  · exact h.elim
-- locals
def gI (L : LoS) (i : Nat) (f : Int32 → Prop) : Prop := match L.getD i none with
  | some (.int x) => f x
  | _ => False
def gL (L : LoS) (i : Nat) (f : Int64 → Prop) : Prop := match L.getD i none with
  | some (.long x) => f x
  | _ => False
def gA (L : LoS) (i : Nat) (f : Value → Prop) : Prop := match L.getD i none with
  | some (.ref x) => f (.ref x)
  | some .null => f .null
  | _ => False
theorem gI_e {L : LoS} {i : Nat} {f : Int32 → Prop} (h : gI L i f) : ∃ x, L.getD i none = some (.int x) ∧ f x := by
  unfold gI at h
  split at h
  · exact ⟨_, by assumption, h⟩
  · exact h.elim
theorem gL_e {L : LoS} {i : Nat} {f : Int64 → Prop} (h : gL L i f) : ∃ x, L.getD i none = some (.long x) ∧ f x := by
  unfold gL at h
  split at h
  · exact ⟨_, by assumption, h⟩
  · exact h.elim
theorem gA_e {L : LoS} {i : Nat} {f : Value → Prop} (h : gA L i f) : (∃ x, L.getD i none = some (.ref x) ∧ f (.ref x)) ∨ (L.getD i none = some .null ∧ f .null) := by
  unfold gA at h
  split at h
  · exact Or.inl ⟨_, by assumption, h⟩
  · exact Or.inr ⟨by assumption, h⟩
  · exact h.elim
def isW (v : Option Value) : Bool := match v with
  | some (.long _) => true
  | some (.double _) => true
  | _ => false
def okS (L : LoS) (i : Nat) : Bool := decide (i < L.length) && (match i with
  | 0 => true
  | j + 1 => !(isW (L.getD j none)))
def sL (L : LoS) (i : Nat) (v : Value) (f : LoS → Prop) : Prop := if okS L i = true then f (L.set i (some v)) else False
theorem sL_e {L : LoS} {i : Nat} {v : Value} {f : LoS → Prop} (h : sL L i v f) : okS L i = true ∧ f (L.set i (some v)) := by
  unfold sL at h
  split at h
  · exact ⟨by assumption, h⟩
  · exact h.elim
-- cells
def cO (xs : List Int32) (h : AH) (p c : Nat) (f : List Value → Prop) : Prop := match smC xs h p with
  | some (.inr (d, fs)) => if d = c then f fs else False
  | _ => False
def cA (xs : List Int32) (h : AH) (p : Nat) (f : Nat → List Int32 → Prop) : Prop := match smC xs h p with
  | some (.inl (k, l)) => f k l
  | _ => False
theorem cO_e {xs : List Int32} {h : AH} {p c : Nat} {f : List Value → Prop} (q : cO xs h p c f) : ∃ fs, smC xs h p = some (.inr (c, fs)) ∧ f fs := by
  unfold cO at q
  split at q
  · split at q
    · rename_i e1 e2
      subst e2
      exact ⟨_, e1, q⟩
    · exact q.elim
  · exact q.elim
theorem cA_e {xs : List Int32} {h : AH} {p : Nat} {f : Nat → List Int32 → Prop} (q : cA xs h p f) : ∃ k l, smC xs h p = some (.inl (k, l)) ∧ f k l := by
  unfold cA at q
  split at q
  · exact ⟨_, _, by assumption, q⟩
  · exact q.elim
def fO (fs : List Value) (k : Nat) (f : Value → Prop) : Prop := match fs[k]? with
  | some v => f v
  | none => False
theorem fO_e {fs : List Value} {k : Nat} {f : Value → Prop} (q : fO fs k f) : ∃ v, fs[k]? = some v ∧ f v := by
  unfold fO at q
  split at q
  · exact ⟨_, by assumption, q⟩
  · exact q.elim
def fitV (ty : FieldType) (v : Value) : Prop := match ty, v with
  | .int, .int _ => True
  | .boolean, .int x => x = 0 ∨ x = 1
  | .object _, .ref _ => True
  | .object _, .null => True
  | .array _, .ref _ => True
  | .array _, .null => True
  | _, _ => False
def catS (st : List Value) : Nat := (st.map fun v => v.category).sum
/-- a call: its cells and slots are named ahead -/
def cal (call : CT) (K : List Value → AH → Nat → Nat → Prop) (a : Nat) (args rest : List Value) (h : AH) (mc ms : Nat) : Prop :=
  catS rest ≤ 8 ∧ ∃ mc' ms' : Nat, mc' ≤ mc ∧ ms' ≤ ms ∧ call a mc' ms' args h (fun r h' => K (r.toList ++ rest) h' (mc - mc') (ms - ms'))
def cpL (f g : List Int32) (sp dp n : Nat) : List Int32 := (List.range g.length).map (fun k => va_cpy (fun i => f.getD i 0) (fun i => g.getD i 0) sp dp n k)
def tgO (pc : Nat) (o : Int) : Nat := ((pc : Int) + o).toNat
def dfV (ci b : Nat) : List Value := (List.range b).map (fun k => defaultValue (tyT ci k))
def inR (i : Int32) (n : Nat) : Prop := vp_in i n
/-- one instruction -/
def stp (xs : List Int32) (call : CT) (y : Nat) (Q : QT) (K : KT) (r : RI) (pc : Nat) (L : LoS) (st : List Value) (h : AH) (mc ms : Nat) : Prop :=
  match r with
  | (i, nx, kd, a, b, v) =>
  match i with
  | .iconst _ => K nx L (.int v :: st) h mc ms
  | .bipush _ => K nx L (.int v :: st) h mc ms
  | .sipush _ => K nx L (.int v :: st) h mc ms
  | .ldc _ => K nx L ((if a = 0 then .int v else .ref a) :: st) h mc ms
  | .ldc_w _ => K nx L (.int v :: st) h mc ms
  | .ldc2_w _ => K nx L (.long (Int64.ofNat a) :: st) h mc ms
  | .aconst_null => K nx L (.null :: st) h mc ms
  | .iload n => gI L n (fun x => K nx L (.int x :: st) h mc ms)
  | .iload_n n => gI L n.val (fun x => K nx L (.int x :: st) h mc ms)
  | .lload_n n => gL L n.val (fun x => K nx L (.long x :: st) h mc ms)
  | .aload n => gA L n (fun x => K nx L (x :: st) h mc ms)
  | .aload_n n => gA L n.val (fun x => K nx L (x :: st) h mc ms)
  | .istore n => pI st (fun x s => sL L n (.int x) (fun L => K nx L s h mc ms))
  | .istore_n n => pI st (fun x s => sL L n.val (.int x) (fun L => K nx L s h mc ms))
  | .astore n => pR st (fun x s => sL L n (.ref x) (fun L => K nx L s h mc ms))
  | .astore_n n => pR st (fun x s => sL L n.val (.ref x) (fun L => K nx L s h mc ms))
  | .iinc n _ => gI L n (fun x => sL L n (.int (x + v)) (fun L => K nx L st h mc ms))
  | .iadd => pI st (fun y s => pI s (fun x s => K nx L (.int (x + y) :: s) h mc ms))
  | .isub => pI st (fun y s => pI s (fun x s => K nx L (.int (x - y) :: s) h mc ms))
  | .imul => pI st (fun y s => pI s (fun x s => K nx L (.int (x * y) :: s) h mc ms))
  | .iand => pI st (fun y s => pI s (fun x s => K nx L (.int (x &&& y) :: s) h mc ms))
  | .ior => pI st (fun y s => pI s (fun x s => K nx L (.int (x ||| y) :: s) h mc ms))
  | .ixor => pI st (fun y s => pI s (fun x s => K nx L (.int (x ^^^ y) :: s) h mc ms))
  | .idiv => pI st (fun y s => pI s (fun x s => ¬ y = 0 ∧ K nx L (.int (x / y) :: s) h mc ms))
  | .irem => pI st (fun y s => pI s (fun x s => ¬ y = 0 ∧ K nx L (.int (x - x / y * y) :: s) h mc ms))
  | .ishl => pI st (fun y s => pI s (fun x s => K nx L (.int (x <<< (y &&& 31)) :: s) h mc ms))
  | .ishr => pI st (fun y s => pI s (fun x s => K nx L (.int (x >>> (y &&& 31)) :: s) h mc ms))
  | .iushr => pI st (fun y s => pI s (fun x s => K nx L (.int (x.toUInt32 >>> (y.toUInt32 &&& Int32.toUInt32 31)).toInt32 :: s) h mc ms))
  | .ineg => pI st (fun x s => K nx L (.int (-x) :: s) h mc ms)
  | .i2l => pI st (fun x s => K nx L (.long x.toInt64 :: s) h mc ms)
  | .l2i => pL st (fun x s => K nx L (.int x.toInt32 :: s) h mc ms)
  | .i2b => pI st (fun x s => K nx L (.int x.toInt8.toInt32 :: s) h mc ms)
  | .i2s => pI st (fun x s => K nx L (.int x.toInt16.toInt32 :: s) h mc ms)
  | .i2c => pI st (fun x s => K nx L (.int (x.toUInt32 % 65536).toInt32 :: s) h mc ms)
  | .land => pL st (fun y s => pL s (fun x s => K nx L (.long (x &&& y) :: s) h mc ms))
  | .lor => pL st (fun y s => pL s (fun x s => K nx L (.long (x ||| y) :: s) h mc ms))
  | .lshl => pI st (fun y s => pL s (fun x s => K nx L (.long (x <<< (y.toInt64 &&& 63)) :: s) h mc ms))
  | .lshr => pI st (fun y s => pL s (fun x s => K nx L (.long (x >>> (y.toInt64 &&& 63)) :: s) h mc ms))
  | .lushr => pI st (fun y s => pL s (fun x s => K nx L (.long (x.toUInt64 >>> (y.toInt64.toUInt64 &&& Int64.toUInt64 63)).toInt64 :: s) h mc ms))
  | .dup => pV st (fun u s => K nx L (u :: u :: s) h mc ms)
  | .pop => pV st (fun u s => K nx L s h mc ms)
  | .dup2 => pV st (fun u s => pV s (fun w s => K nx L (u :: w :: u :: w :: s) h mc ms))
  | .goto _ => K a L st h mc ms
  | .ifCond .eq _ => pI st (fun x s => if x = 0 then K a L s h mc ms else K nx L s h mc ms)
  | .ifCond .ne _ => pI st (fun x s => if x = 0 then K nx L s h mc ms else K a L s h mc ms)
  | .ifCond .lt _ => pI st (fun x s => if x < 0 then K a L s h mc ms else K nx L s h mc ms)
  | .ifCond .ge _ => pI st (fun x s => if 0 ≤ x then K a L s h mc ms else K nx L s h mc ms)
  | .ifCond .gt _ => pI st (fun x s => if 0 < x then K a L s h mc ms else K nx L s h mc ms)
  | .ifCond .le _ => pI st (fun x s => if x ≤ 0 then K a L s h mc ms else K nx L s h mc ms)
  | .if_icmp .eq _ => pI st (fun y s => pI s (fun x s => if x = y then K a L s h mc ms else K nx L s h mc ms))
  | .if_icmp .ne _ => pI st (fun y s => pI s (fun x s => if x = y then K nx L s h mc ms else K a L s h mc ms))
  | .if_icmp .lt _ => pI st (fun y s => pI s (fun x s => if x < y then K a L s h mc ms else K nx L s h mc ms))
  | .if_icmp .ge _ => pI st (fun y s => pI s (fun x s => if y ≤ x then K a L s h mc ms else K nx L s h mc ms))
  | .if_icmp .gt _ => pI st (fun y s => pI s (fun x s => if y < x then K a L s h mc ms else K nx L s h mc ms))
  | .if_icmp .le _ => pI st (fun y s => pI s (fun x s => if x ≤ y then K a L s h mc ms else K nx L s h mc ms))
  | .ifnull _ => (match st with
    | .null :: s => K a L s h mc ms
    | .ref _ :: s => K nx L s h mc ms
    | _ => False)
  | .ifnonnull _ => (match st with
    | .null :: s => K nx L s h mc ms
    | .ref _ :: s => K a L s h mc ms
    | _ => False)
  | .tableswitch d lo hi offs => pI st (fun x s => if x.toInt < lo ∨ hi < x.toInt then K (tgO pc d) L s h mc ms else (match offs[(x.toInt - lo).toNat]? with
    | some o => K (tgO pc o) L s h mc ms
    | none => False))
  | .lookupswitch d ps => pI st (fun x s => K (tgO pc (Op.lookupswitch.offset ps.toList d x.toInt)) L s h mc ms)
  | .getfield _ => pR st (fun p s => cO xs h p a (fun fs => fO fs b (fun u => K nx L (u :: s) h mc ms)))
  | .putfield _ => pV st (fun u s => pR s (fun p s => 32 ≤ p ∧ cO xs h p a (fun fs => b < fs.length ∧ fitV (tyT a b) u ∧ K nx L s (h.set (p - 32) (.inr (a, fs.set b u))) mc ms)))
  | .getstatic _ => K nx L ((if a = 99 then .int 1 else .ref a) :: st) h mc ms
  | .iaload => pI st (fun i s => pR s (fun p s => cA xs h p (fun k l => k = 0 ∧ vp_in i l.length ∧ K nx L (.int (l.getD i.toNatClampNeg 0) :: s) h mc ms)))
  | .baload => pI st (fun i s => pR s (fun p s => cA xs h p (fun k l => ((32 ≤ p ∧ k = 1) ∨ (p < 32 ∧ k = 3)) ∧ vp_in i l.length ∧ K nx L (.int (l.getD i.toNatClampNeg 0) :: s) h mc ms)))
  | .aaload => pI st (fun i s => pR s (fun p s => 32 ≤ p ∧ cO xs h p 50 (fun fs => vp_in i fs.length ∧ fO fs i.toNatClampNeg (fun u => c1V u = true ∧ (∀ z, u ≠ .int z) ∧ K nx L (u :: s) h mc ms))))
  | .iastore => pI st (fun x s => pI s (fun i s => pR s (fun p s => 32 ≤ p ∧ cA xs h p (fun k l => k = 0 ∧ vp_in i l.length ∧ K nx L s (h.set (p - 32) (.inl (0, l.set i.toNatClampNeg x))) mc ms))))
  | .bastore => pI st (fun x s => pI s (fun i s => pR s (fun p s => 32 ≤ p ∧ (x = 0 ∨ x = 1) ∧ cA xs h p (fun k l => k = 1 ∧ vp_in i l.length ∧ K nx L s (h.set (p - 32) (.inl (1, l.set i.toNatClampNeg x))) mc ms))))
  | .aastore => pR st (fun q s => pI s (fun i s => pR s (fun p s => 32 ≤ p ∧ 32 ≤ q ∧ cO xs h q 3 (fun _ => cO xs h p 50 (fun fs => vp_in i fs.length ∧ K nx L s (h.set (p - 32) (.inr (50, fs.set i.toNatClampNeg (.ref q)))) mc ms)))))
  | .arraylength => pR st (fun p s => cA xs h p (fun k l => (k = 0 ∨ k = 1 ∨ (p < 32 ∧ k = 3)) ∧ K nx L (.int (Int32.ofNat l.length) :: s) h mc ms))
  | .newarray _ => pI st (fun n s => ¬ n < 0 ∧ n.toNatClampNeg ≤ 100000 ∧ 1 ≤ mc ∧ n.toNatClampNeg ≤ ms ∧ K nx L (.ref (32 + h.length) :: s) (h ++ [.inl (a, List.replicate n.toNatClampNeg 0)]) (mc - 1) (ms - n.toNatClampNeg))
  | .anewarray _ => pI st (fun n s => ¬ n < 0 ∧ n.toNatClampNeg ≤ 100000 ∧ 1 ≤ mc ∧ n.toNatClampNeg ≤ ms ∧ K nx L (.ref (32 + h.length) :: s) (h ++ [.inr (50, List.replicate n.toNatClampNeg .null)]) (mc - 1) (ms - n.toNatClampNeg))
  | .new _ => 1 ≤ mc ∧ b ≤ ms ∧ K nx L (.ref (32 + h.length) :: st) (h ++ [.inr (a, dfV a b)]) (mc - 1) (ms - b)
  | .checkcast _ => pR st (fun p s => 32 ≤ p ∧ cA xs h p (fun k _ => k = 0 ∧ K nx L (.ref p :: s) h mc ms))
  | .invokestatic _ => (match kd with
    | 2 => pI st (fun y s => pI s (fun x s => catS s ≤ 8 ∧ K nx L (.int (if x < y then y else x) :: s) h mc ms))
    | 3 => pI st (fun y s => pI s (fun x s => catS s ≤ 8 ∧ K nx L (.int (if y < x then y else x) :: s) h mc ms))
    | 4 => pI st (fun n s => pI s (fun dp s => pR s (fun q s => pI s (fun sp s => pR s (fun p s => 32 ≤ p ∧ 32 ≤ q ∧ catS s ≤ 8 ∧ cA xs h p (fun k f => cA xs h q (fun k2 g => k2 = k ∧ (k = 0 ∨ k = 1) ∧ ¬ sp < 0 ∧ ¬ dp < 0 ∧ ¬ n < 0 ∧ sp.toNatClampNeg + n.toNatClampNeg ≤ f.length ∧ dp.toNatClampNeg + n.toNatClampNeg ≤ g.length ∧ (k = 1 → ∀ x ∈ f, x = 0 ∨ x = 1) ∧
        K nx L s (h.set (q - 32) (.inl (k, cpL f g sp.toNatClampNeg dp.toNatClampNeg n.toNatClampNeg))) mc ms)))))))
    | _ => b ≤ st.length ∧ cal call (fun s h mc ms => K nx L s h mc ms) a (st.take b).reverse (st.drop b) h mc ms)
  | .invokevirtual _ => (match kd with
    | 5 => pR st (fun p s => 32 ≤ p ∧ catS s ≤ 8 ∧ cA xs h p (fun k l => k = 0 ∧ 1 ≤ mc ∧ l.length ≤ ms ∧ K nx L (.ref (32 + h.length) :: s) (h ++ [.inl (0, l)]) (mc - 1) (ms - l.length)))
    | _ => b ≤ st.length ∧ pR (st.drop b) (fun p s => cO xs h p (mCn a) (fun _ => cal call (fun s h mc ms => K nx L s h mc ms) a (.ref p :: (st.take b).reverse) s h mc ms)))
  | .invokespecial _ => (match kd with
    | 12 => pR st (fun p s => catS s ≤ 8 ∧ K nx L s h mc ms)
    | _ => b ≤ st.length ∧ pR (st.drop b) (fun p s => 32 ≤ p ∧ cal call (fun s h mc ms => K nx L s h mc ms) a (.ref p :: (st.take b).reverse) s h mc ms))
  | .ireturn => pI st (fun x s => s = [] ∧ (match mRt y with
    | some .int => Q (some (.int x)) h
    | some .boolean => (x = 0 ∨ x = 1) ∧ Q (some (.int x)) h
    | some .byte => (-128 ≤ x ∧ x ≤ 127) ∧ Q (some (.int x)) h
    | _ => False))
  | .areturn => pV st (fun u s => s = [] ∧ (∀ z, u ≠ .int z) ∧ Q (some u) h)
  | .return_ => st = [] ∧ Q none h
  | _ => False
/-- a method's run from an instruction on: the least that its instructions give -/
def gw (xs : List Int32) (call : CT) (y : Nat) (Q : QT) : KT := fun pc L st h mc ms =>
  ∀ P : KT, (∀ pc L st h mc ms r, smI y pc = some r → stp xs call y Q P r pc L st h mc ms → P pc L st h mc ms) → P pc L st h mc ms
def slV (vs : List Value) : LoS := vs.flatMap fun v => if v.category = 2 then [some v, none] else [some v]
def entL (n : Nat) (vs : List Value) : LoS := slV vs ++ List.replicate (n - (slV vs).length) none
/-- a method's run at a depth -/
def WP (xs : List Int32) : Nat → CT
  | 0 => fun _ _ _ _ _ _ => False
  | d + 1 => fun y mc ms args h Q => (slV args).length ≤ mMx y ∧ gw xs (WP xs d) y Q 0 (entL (mMx y) args) [] h mc ms
-- what a weaker end asks
theorem pI_m {st : List Value} {f g : Int32 → List Value → Prop} (h : ∀ x s, f x s → g x s) : pI st f → pI st g := by
  unfold pI
  split
  · exact h _ _
  · exact id
theorem pL_m {st : List Value} {f g : Int64 → List Value → Prop} (h : ∀ x s, f x s → g x s) : pL st f → pL st g := by
  unfold pL
  split
  · exact h _ _
  · exact id
theorem pR_m {st : List Value} {f g : Nat → List Value → Prop} (h : ∀ x s, f x s → g x s) : pR st f → pR st g := by
  unfold pR
  split
  · exact h _ _
  · exact id
theorem pV_m {st : List Value} {f g : Value → List Value → Prop} (h : ∀ x s, f x s → g x s) : pV st f → pV st g := by
  unfold pV
  split
  · split
    · exact h _ _
    · exact id
  · exact id
theorem gI_m {L : LoS} {i : Nat} {f g : Int32 → Prop} (h : ∀ x, f x → g x) : gI L i f → gI L i g := by
  unfold gI
  split
  · exact h _
  · exact id
theorem gL_m {L : LoS} {i : Nat} {f g : Int64 → Prop} (h : ∀ x, f x → g x) : gL L i f → gL L i g := by
  unfold gL
  split
  · exact h _
  · exact id
theorem gA_m {L : LoS} {i : Nat} {f g : Value → Prop} (h : ∀ x, f x → g x) : gA L i f → gA L i g := by
  unfold gA
  split
  · exact h _
  · exact h _
  · exact id
theorem sL_m {L : LoS} {i : Nat} {v : Value} {f g : LoS → Prop} (h : ∀ x, f x → g x) : sL L i v f → sL L i v g := by
  unfold sL
  split
  · exact h _
  · exact id
theorem cO_m {xs : List Int32} {h : AH} {p c : Nat} {f g : List Value → Prop} (q : ∀ x, f x → g x) : cO xs h p c f → cO xs h p c g := by
  unfold cO
  split
  · split
    · exact q _
    · exact id
  · exact id
theorem cA_m {xs : List Int32} {h : AH} {p : Nat} {f g : Nat → List Int32 → Prop} (q : ∀ k x, f k x → g k x) : cA xs h p f → cA xs h p g := by
  unfold cA
  split
  · exact q _ _
  · exact id
theorem fO_m {fs : List Value} {k : Nat} {f g : Value → Prop} (q : ∀ x, f x → g x) : fO fs k f → fO fs k g := by
  unfold fO
  split
  · exact q _
  · exact id
theorem an_m {A B B' : Prop} (h : B → B') : A ∧ B → A ∧ B' := fun q => ⟨q.1, h q.2⟩
theorem if_m {c : Prop} {_ : Decidable c} {A B A' B' : Prop} (h1 : A → A') (h2 : B → B') : (if c then A else B) → (if c then A' else B') := by
  split
  · exact h1
  · exact h2
theorem cal_m {call : CT} {K K' : List Value → AH → Nat → Nat → Prop} (hc : ∀ a mc ms args h Q Q', (∀ r h', Q r h' → Q' r h') → call a mc ms args h Q → call a mc ms args h Q') (hK : ∀ s h mc ms, K s h mc ms → K' s h mc ms) {a : Nat} {args rest : List Value} {h : AH} {mc ms : Nat} : cal call K a args rest h mc ms → cal call K' a args rest h mc ms := by
  rintro ⟨h1, mc', ms', h2, h3, h4⟩
  exact ⟨h1, mc', ms', h2, h3, hc _ _ _ _ _ _ _ (fun r h' q => hK _ _ _ _ q) h4⟩
set_option maxHeartbeats 2000000 in
theorem stp_m {xs : List Int32} {call : CT} {y : Nat} {Q Q' : QT} {K K' : KT} (hc : ∀ a mc ms args h Q Q', (∀ r h', Q r h' → Q' r h') → call a mc ms args h Q → call a mc ms args h Q') (hQ : ∀ r h, Q r h → Q' r h) (hK : ∀ pc L st h mc ms, K pc L st h mc ms → K' pc L st h mc ms) {r : RI} {pc : Nat} {L : LoS} {st : List Value} {h : AH} {mc ms : Nat} : stp xs call y Q K r pc L st h mc ms → stp xs call y Q' K' r pc L st h mc ms := by
  obtain ⟨i, nx, kd, a, b, v⟩ := r
  unfold stp
  dsimp only
  split
  all_goals repeat' (first | exact id | exact hK _ _ _ _ _ _ | exact hQ _ _ | refine pI_m (fun _ _ => ?_) | refine pL_m (fun _ _ => ?_) | refine pR_m (fun _ _ => ?_) | refine pV_m (fun _ _ => ?_) | refine gI_m (fun _ => ?_) | refine gL_m (fun _ => ?_) | refine gA_m (fun _ => ?_) | refine sL_m (fun _ => ?_) | refine cO_m (fun _ => ?_) | refine cA_m (fun _ _ => ?_) | refine fO_m (fun _ => ?_) | refine cal_m hc (fun _ _ _ _ => ?_) | refine if_m ?_ ?_ | refine an_m ?_ | split)
theorem gw_step {xs : List Int32} {call : CT} {y : Nat} {Q : QT} (hc : ∀ a mc ms args h Q Q', (∀ r h', Q r h' → Q' r h') → call a mc ms args h Q → call a mc ms args h Q') {pc : Nat} {L : LoS} {st : List Value} {h : AH} {mc ms : Nat} {r : RI} (hr : smI y pc = some r) (hs : stp xs call y Q (gw xs call y Q) r pc L st h mc ms) : gw xs call y Q pc L st h mc ms := by
  intro P hP
  exact hP _ _ _ _ _ _ _ hr (stp_m hc (fun _ _ q => q) (fun pc L st h mc ms q => q P hP) hs)
theorem gw_m {xs : List Int32} {call : CT} {y : Nat} {Q Q' : QT} (hc : ∀ a mc ms args h Q Q', (∀ r h', Q r h' → Q' r h') → call a mc ms args h Q → call a mc ms args h Q') (hQ : ∀ r h, Q r h → Q' r h) {pc : Nat} {L : LoS} {st : List Value} {h : AH} {mc ms : Nat} (g : gw xs call y Q pc L st h mc ms) : gw xs call y Q' pc L st h mc ms := by
  refine g _ (fun pc L st h mc ms r hr hs => ?_)
  exact gw_step hc hr (stp_m hc hQ (fun _ _ _ _ _ _ q => q) hs)
theorem WP_m (xs : List Int32) : ∀ d a mc ms args h Q Q', (∀ r h', Q r h' → Q' r h') → WP xs d a mc ms args h Q → WP xs d a mc ms args h Q' := by
  intro d
  induction d with
  | zero => intro a mc ms args h Q Q' _ q; exact q.elim
  | succ d ih =>
    intro a mc ms args h Q Q' hQ q
    exact ⟨q.1, gw_m ih hQ q.2⟩
/-- the step at a depth -/
theorem gs {xs : List Int32} {d y : Nat} {Q : QT} {pc : Nat} {L : LoS} {st : List Value} {h : AH} {mc ms : Nat} {r : RI} (hr : smI y pc = some r) (hs : stp xs (WP xs d) y Q (gw xs (WP xs d) y Q) r pc L st h mc ms) : gw xs (WP xs d) y Q pc L st h mc ms := gw_step (WP_m xs d) hr hs
