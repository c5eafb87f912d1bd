section
/-! THE SMALL MACHINE: what a method's instructions do to a picture of the cells. A cell: numbers of an array (kind 0 int, 1 boolean, 3 byte), or an object's fields (its class's number), or (number 50) the references of a Sheet[]. A reference is a place: below 32 what was there before the law (script, statics, texts), from 32 on what was made since, in the order of its making. -/
abbrev AC : Type := (Nat × List Int32) ⊕ (Nat × List Value)
abbrev AH : Type := List AC
abbrev LoS : Type := List (Option Value)
abbrev QT : Type := Option Value → AH → Prop
abbrev CT : Type := Nat → Nat → Nat → List Value → AH → QT → Prop
abbrev KT : Type := Nat → LoS → List Value → AH → Nat → Nat → Prop
noncomputable def smI (y pc : Nat) : Option RI := ((allT.getD y []).getD pc none)
def smM (y : Nat) : MD := mdL.getD y (yL_law, cL_law, 4, some .boolean, 8, 1, 0)
def mNm (y : Nat) : MethodName := (smM y).1
def mCd (y : Nat) : ByteArray := (smM y).2.1
def mMx (y : Nat) : Nat := (smM y).2.2.1
def mRt (y : Nat) : Option FieldType := (smM y).2.2.2.1
def mCn (y : Nat) : Nat := (smM y).2.2.2.2.1
def mNa (y : Nat) : Nat := (smM y).2.2.2.2.2.1
def mFl (y : Nat) : Nat := (smM y).2.2.2.2.2.2
def roBODIES : List Int32 := [10, 11, 12, 13, 20, 0, 0, 0, 0, 30, 0, 0, 0, 0, 40, 0, 0, 0, 0, 50, 0, 60, 0, 0, 0, 0, 70, 71]
def roB : Nat → List Int32 := fun k => match k with
  | 0 => [104, 99, 115]
  | 1 => [104, 102, 99]
  | 2 => [41]
  | 3 => [124]
  | 4 => [38]
  | 5 => [60, 61, 62]
  | 6 => [43, 45]
  | _ => [42, 47, 37]
def roL (xs : List Int32) : List AC := [.inl (0, xs), .inl (0, [-1, 0, 0, 0, 1, 2, 3]), .inl (0, roBODIES),
  .inr (60, [.ref 11, .int 0]), .inr (60, [.ref 12, .int 0]), .inr (60, [.ref 13, .int 0]), .inr (60, [.ref 14, .int 0]), .inr (60, [.ref 15, .int 0]), .inr (60, [.ref 16, .int 0]), .inr (60, [.ref 17, .int 0]), .inr (60, [.ref 18, .int 0]),
  .inl (3, roB 0), .inl (3, roB 1), .inl (3, roB 2), .inl (3, roB 3), .inl (3, roB 4), .inl (3, roB 5), .inl (3, roB 6), .inl (3, roB 7)]
def smC (xs : List Int32) (h : AH) (p : Nat) : Option AC := if p < 32 then (roL xs)[p]? else h[p - 32]?
-- the stack's top
def pI (st : List Value) (f : Int32 → List Value → Prop) : Prop := match st with
  | .int x :: s => f x s
  | _ => False
def pL (st : List Value) (f : Int64 → List Value → Prop) : Prop := match st with
  | .long x :: s => f x s
  | _ => False
def pR (st : List Value) (f : Nat → List Value → Prop) : Prop := match st with
  | .ref x :: s => f x s
  | _ => False
def c1V (v : Value) : Bool := match v with
  | .int _ => true
  | .ref _ => true
  | .null => true
  | _ => false
def pV (st : List Value) (f : Value → List Value → Prop) : Prop := match st with
  | v :: s => if c1V v = true then f v s else False
  | _ => False
theorem pI_e {st : List Value} {f : Int32 → List Value → Prop} (h : pI st f) : ∃ x s, st = .int x :: s ∧ f x s := by
  unfold pI at h
  split at h
  · exact ⟨_, _, rfl, h⟩
  · exact h.elim
theorem pL_e {st : List Value} {f : Int64 → List Value → Prop} (h : pL st f) : ∃ x s, st = .long x :: s ∧ f x s := by
  unfold pL at h
  split at h
  · exact ⟨_, _, rfl, h⟩
  · exact h.elim
theorem pR_e {st : List Value} {f : Nat → List Value → Prop} (h : pR st f) : ∃ x s, st = .ref x :: s ∧ f x s := by
  unfold pR at h
  split at h
  · exact ⟨_, _, rfl, h⟩
  · exact h.elim
theorem pV_e {st : List Value} {f : Value → List Value → Prop} (h : pV st f) : ∃ v s, st = v :: s ∧ c1V v = true ∧ f v s := by
  unfold pV at h
  split at h
  · split at h
    · exact ⟨_, _, rfl, by assumption, h⟩
    · exact h.elim
  · exact h.elim
-- locals
def gI (L : LoS) (i : Nat) (f : Int32 → Prop) : Prop := match L.getD i none with
  | some (.int x) => f x
  | _ => False
def gL (L : LoS) (i : Nat) (f : Int64 → Prop) : Prop := match L.getD i none with
  | some (.long x) => f x
  | _ => False
def gA (L : LoS) (i : Nat) (f : Value → Prop) : Prop := match L.getD i none with
  | some (.ref x) => f (.ref x)
  | some .null => f .null
  | _ => False
theorem gI_e {L : LoS} {i : Nat} {f : Int32 → Prop} (h : gI L i f) : ∃ x, L.getD i none = some (.int x) ∧ f x := by
  unfold gI at h
  split at h
  · exact ⟨_, by assumption, h⟩
  · exact h.elim
theorem gL_e {L : LoS} {i : Nat} {f : Int64 → Prop} (h : gL L i f) : ∃ x, L.getD i none = some (.long x) ∧ f x := by
  unfold gL at h
  split at h
  · exact ⟨_, by assumption, h⟩
  · exact h.elim
theorem gA_e {L : LoS} {i : Nat} {f : Value → Prop} (h : gA L i f) : (∃ x, L.getD i none = some (.ref x) ∧ f (.ref x)) ∨ (L.getD i none = some .null ∧ f .null) := by
  unfold gA at h
  split at h
  · exact Or.inl ⟨_, by assumption, h⟩
  · exact Or.inr ⟨by assumption, h⟩
  · exact h.elim
def isW (v : Option Value) : Bool := match v with
  | some (.long _) => true
  | some (.double _) => true
  | _ => false
def okS (L : LoS) (i : Nat) : Bool := decide (i < L.length) && (match i with
  | 0 => true
  | j + 1 => !(isW (L.getD j none)))
def sL (L : LoS) (i : Nat) (v : Value) (f : LoS → Prop) : Prop := if okS L i = true then f (L.set i (some v)) else False
theorem sL_e {L : LoS} {i : Nat} {v : Value} {f : LoS → Prop} (h : sL L i v f) : okS L i = true ∧ f (L.set i (some v)) := by
  unfold sL at h
  split at h
  · exact ⟨by assumption, h⟩
  · exact h.elim
-- cells
def cO (xs : List Int32) (h : AH) (p c : Nat) (f : List Value → Prop) : Prop := match smC xs h p with
  | some (.inr (d, fs)) => if d = c then f fs else False
  | _ => False
def cA (xs : List Int32) (h : AH) (p : Nat) (f : Nat → List Int32 → Prop) : Prop := match smC xs h p with
  | some (.inl (k, l)) => f k l
  | _ => False
theorem cO_e {xs : List Int32} {h : AH} {p c : Nat} {f : List Value → Prop} (q : cO xs h p c f) : ∃ fs, smC xs h p = some (.inr (c, fs)) ∧ f fs := by
  unfold cO at q
  split at q
  · split at q
    · rename_i e1 e2
      subst e2
      exact ⟨_, e1, q⟩
    · exact q.elim
  · exact q.elim
theorem cA_e {xs : List Int32} {h : AH} {p : Nat} {f : Nat → List Int32 → Prop} (q : cA xs h p f) : ∃ k l, smC xs h p = some (.inl (k, l)) ∧ f k l := by
  unfold cA at q
  split at q
  · exact ⟨_, _, by assumption, q⟩
  · exact q.elim
def fO (fs : List Value) (k : Nat) (f : Value → Prop) : Prop := match fs[k]? with
  | some v => f v
  | none => False
theorem fO_e {fs : List Value} {k : Nat} {f : Value → Prop} (q : fO fs k f) : ∃ v, fs[k]? = some v ∧ f v := by
  unfold fO at q
  split at q
  · exact ⟨_, by assumption, q⟩
  · exact q.elim
def fitV (ty : FieldType) (v : Value) : Prop := match ty, v with
  | .int, .int _ => True
  | .boolean, .int x => x = 0 ∨ x = 1
  | .object _, .ref _ => True
  | .object _, .null => True
  | .array _, .ref _ => True
  | .array _, .null => True
  | _, _ => False
def catS (st : List Value) : Nat := (st.map fun v => v.category).sum
/-- a call: its cells and slots are named ahead -/
def cal (call : CT) (K : List Value → AH → Nat → Nat → Prop) (a : Nat) (args rest : List Value) (h : AH) (mc ms : Nat) : Prop :=
  catS rest ≤ 8 ∧ ∃ mc' ms' : Nat, mc' ≤ mc ∧ ms' ≤ ms ∧ call a mc' ms' args h (fun r h' => K (r.toList ++ rest) h' (mc - mc') (ms - ms'))
def cpL (f g : List Int32) (sp dp n : Nat) : List Int32 := (List.range g.length).map (fun k => va_cpy (fun i => f.getD i 0) (fun i => g.getD i 0) sp dp n k)
def tgO (pc : Nat) (o : Int) : Nat := ((pc : Int) + o).toNat
def dfV (ci b : Nat) : List Value := (List.range b).map (fun k => defaultValue (tyT ci k))
def inR (i : Int32) (n : Nat) : Prop := vp_in i n
/-- one instruction -/
def stp (xs : List Int32) (call : CT) (y : Nat) (Q : QT) (K : KT) (r : RI) (pc : Nat) (L : LoS) (st : List Value) (h : AH) (mc ms : Nat) : Prop :=
  match r with
  | (i, nx, kd, a, b, v) =>
  match i with
  | .iconst _ => K nx L (.int v :: st) h mc ms
  | .bipush _ => K nx L (.int v :: st) h mc ms
  | .sipush _ => K nx L (.int v :: st) h mc ms
  | .ldc _ => K nx L ((if a = 0 then .int v else .ref a) :: st) h mc ms
  | .ldc_w _ => K nx L (.int v :: st) h mc ms
  | .ldc2_w _ => K nx L (.long (Int64.ofNat a) :: st) h mc ms
  | .aconst_null => K nx L (.null :: st) h mc ms
  | .iload n => gI L n (fun x => K nx L (.int x :: st) h mc ms)
  | .iload_n n => gI L n.val (fun x => K nx L (.int x :: st) h mc ms)
  | .lload_n n => gL L n.val (fun x => K nx L (.long x :: st) h mc ms)
  | .aload n => gA L n (fun x => K nx L (x :: st) h mc ms)
  | .aload_n n => gA L n.val (fun x => K nx L (x :: st) h mc ms)
  | .istore n => pI st (fun x s => sL L n (.int x) (fun L => K nx L s h mc ms))
  | .istore_n n => pI st (fun x s => sL L n.val (.int x) (fun L => K nx L s h mc ms))
  | .astore n => pR st (fun x s => sL L n (.ref x) (fun L => K nx L s h mc ms))
  | .astore_n n => pR st (fun x s => sL L n.val (.ref x) (fun L => K nx L s h mc ms))
  | .iinc n _ => gI L n (fun x => sL L n (.int (x + v)) (fun L => K nx L st h mc ms))
  | .iadd => pI st (fun y s => pI s (fun x s => K nx L (.int (x + y) :: s) h mc ms))
  | .isub => pI st (fun y s => pI s (fun x s => K nx L (.int (x - y) :: s) h mc ms))
  | .imul => pI st (fun y s => pI s (fun x s => K nx L (.int (x * y) :: s) h mc ms))
  | .iand => pI st (fun y s => pI s (fun x s => K nx L (.int (x &&& y) :: s) h mc ms))
  | .ior => pI st (fun y s => pI s (fun x s => K nx L (.int (x ||| y) :: s) h mc ms))
  | .ixor => pI st (fun y s => pI s (fun x s => K nx L (.int (x ^^^ y) :: s) h mc ms))
  | .idiv => pI st (fun y s => pI s (fun x s => ¬ y = 0 ∧ K nx L (.int (x / y) :: s) h mc ms))
  | .irem => pI st (fun y s => pI s (fun x s => ¬ y = 0 ∧ K nx L (.int (x - x / y * y) :: s) h mc ms))
  | .ishl => pI st (fun y s => pI s (fun x s => K nx L (.int (x <<< (y &&& 31)) :: s) h mc ms))
  | .ishr => pI st (fun y s => pI s (fun x s => K nx L (.int (x >>> (y &&& 31)) :: s) h mc ms))
  | .iushr => pI st (fun y s => pI s (fun x s => K nx L (.int (x.toUInt32 >>> (y.toUInt32 &&& Int32.toUInt32 31)).toInt32 :: s) h mc ms))
  | .ineg => pI st (fun x s => K nx L (.int (-x) :: s) h mc ms)
  | .i2l => pI st (fun x s => K nx L (.long x.toInt64 :: s) h mc ms)
  | .l2i => pL st (fun x s => K nx L (.int x.toInt32 :: s) h mc ms)
  | .i2b => pI st (fun x s => K nx L (.int x.toInt8.toInt32 :: s) h mc ms)
  | .i2s => pI st (fun x s => K nx L (.int x.toInt16.toInt32 :: s) h mc ms)
  | .i2c => pI st (fun x s => K nx L (.int (x.toUInt32 % 65536).toInt32 :: s) h mc ms)
  | .land => pL st (fun y s => pL s (fun x s => K nx L (.long (x &&& y) :: s) h mc ms))
  | .lor => pL st (fun y s => pL s (fun x s => K nx L (.long (x ||| y) :: s) h mc ms))
  | .lshl => pI st (fun y s => pL s (fun x s => K nx L (.long (x <<< (y.toInt64 &&& 63)) :: s) h mc ms))
  | .lshr => pI st (fun y s => pL s (fun x s => K nx L (.long (x >>> (y.toInt64 &&& 63)) :: s) h mc ms))
  | .lushr => pI st (fun y s => pL s (fun x s => K nx L (.long (x.toUInt64 >>> (y.toInt64.toUInt64 &&& Int64.toUInt64 63)).toInt64 :: s) h mc ms))
  | .dup => pV st (fun u s => K nx L (u :: u :: s) h mc ms)
  | .pop => pV st (fun u s => K nx L s h mc ms)
  | .dup2 => pV st (fun u s => pV s (fun w s => K nx L (u :: w :: u :: w :: s) h mc ms))
  | .goto _ => K a L st h mc ms
  | .ifCond .eq _ => pI st (fun x s => if x = 0 then K a L s h mc ms else K nx L s h mc ms)
  | .ifCond .ne _ => pI st (fun x s => if x = 0 then K nx L s h mc ms else K a L s h mc ms)
  | .ifCond .lt _ => pI st (fun x s => if x < 0 then K a L s h mc ms else K nx L s h mc ms)
  | .ifCond .ge _ => pI st (fun x s => if 0 ≤ x then K a L s h mc ms else K nx L s h mc ms)
  | .ifCond .gt _ => pI st (fun x s => if 0 < x then K a L s h mc ms else K nx L s h mc ms)
  | .ifCond .le _ => pI st (fun x s => if x ≤ 0 then K a L s h mc ms else K nx L s h mc ms)
  | .if_icmp .eq _ => pI st (fun y s => pI s (fun x s => if x = y then K a L s h mc ms else K nx L s h mc ms))
  | .if_icmp .ne _ => pI st (fun y s => pI s (fun x s => if x = y then K nx L s h mc ms else K a L s h mc ms))
  | .if_icmp .lt _ => pI st (fun y s => pI s (fun x s => if x < y then K a L s h mc ms else K nx L s h mc ms))
  | .if_icmp .ge _ => pI st (fun y s => pI s (fun x s => if y ≤ x then K a L s h mc ms else K nx L s h mc ms))
  | .if_icmp .gt _ => pI st (fun y s => pI s (fun x s => if y < x then K a L s h mc ms else K nx L s h mc ms))
  | .if_icmp .le _ => pI st (fun y s => pI s (fun x s => if x ≤ y then K a L s h mc ms else K nx L s h mc ms))
  | .ifnull _ => (match st with
    | .null :: s => K a L s h mc ms
    | .ref _ :: s => K nx L s h mc ms
    | _ => False)
  | .ifnonnull _ => (match st with
    | .null :: s => K nx L s h mc ms
    | .ref _ :: s => K a L s h mc ms
    | _ => False)
  | .tableswitch d lo hi offs => pI st (fun x s => if x.toInt < lo ∨ hi < x.toInt then K (tgO pc d) L s h mc ms else (match offs[(x.toInt - lo).toNat]? with
    | some o => K (tgO pc o) L s h mc ms
    | none => False))
  | .lookupswitch d ps => pI st (fun x s => K (tgO pc (Op.lookupswitch.offset ps.toList d x.toInt)) L s h mc ms)
  | .getfield _ => pR st (fun p s => cO xs h p a (fun fs => fO fs b (fun u => K nx L (u :: s) h mc ms)))
  | .putfield _ => pV st (fun u s => pR s (fun p s => 32 ≤ p ∧ cO xs h p a (fun fs => b < fs.length ∧ fitV (tyT a b) u ∧ K nx L s (h.set (p - 32) (.inr (a, fs.set b u))) mc ms)))
  | .getstatic _ => K nx L ((if a = 99 then .int 1 else .ref a) :: st) h mc ms
  | .iaload => pI st (fun i s => pR s (fun p s => cA xs h p (fun k l => k = 0 ∧ vp_in i l.length ∧ K nx L (.int (l.getD i.toNatClampNeg 0) :: s) h mc ms)))
  | .baload => pI st (fun i s => pR s (fun p s => cA xs h p (fun k l => ((32 ≤ p ∧ k = 1) ∨ (p < 32 ∧ k = 3)) ∧ vp_in i l.length ∧ K nx L (.int (l.getD i.toNatClampNeg 0) :: s) h mc ms)))
  | .aaload => pI st (fun i s => pR s (fun p s => 32 ≤ p ∧ cO xs h p 50 (fun fs => vp_in i fs.length ∧ fO fs i.toNatClampNeg (fun u => c1V u = true ∧ (∀ z, u ≠ .int z) ∧ K nx L (u :: s) h mc ms))))
  | .iastore => pI st (fun x s => pI s (fun i s => pR s (fun p s => 32 ≤ p ∧ cA xs h p (fun k l => k = 0 ∧ vp_in i l.length ∧ K nx L s (h.set (p - 32) (.inl (0, l.set i.toNatClampNeg x))) mc ms))))
  | .bastore => pI st (fun x s => pI s (fun i s => pR s (fun p s => 32 ≤ p ∧ (x = 0 ∨ x = 1) ∧ cA xs h p (fun k l => k = 1 ∧ vp_in i l.length ∧ K nx L s (h.set (p - 32) (.inl (1, l.set i.toNatClampNeg x))) mc ms))))
  | .aastore => pR st (fun q s => pI s (fun i s => pR s (fun p s => 32 ≤ p ∧ 32 ≤ q ∧ cO xs h q 3 (fun _ => cO xs h p 50 (fun fs => vp_in i fs.length ∧ K nx L s (h.set (p - 32) (.inr (50, fs.set i.toNatClampNeg (.ref q)))) mc ms)))))
  | .arraylength => pR st (fun p s => cA xs h p (fun k l => (k = 0 ∨ k = 1 ∨ (p < 32 ∧ k = 3)) ∧ K nx L (.int (Int32.ofNat l.length) :: s) h mc ms))
  | .newarray _ => pI st (fun n s => ¬ n < 0 ∧ n.toNatClampNeg ≤ 100000 ∧ 1 ≤ mc ∧ n.toNatClampNeg ≤ ms ∧ K nx L (.ref (32 + h.length) :: s) (h ++ [.inl (a, List.replicate n.toNatClampNeg 0)]) (mc - 1) (ms - n.toNatClampNeg))
  | .anewarray _ => pI st (fun n s => ¬ n < 0 ∧ n.toNatClampNeg ≤ 100000 ∧ 1 ≤ mc ∧ n.toNatClampNeg ≤ ms ∧ K nx L (.ref (32 + h.length) :: s) (h ++ [.inr (50, List.replicate n.toNatClampNeg .null)]) (mc - 1) (ms - n.toNatClampNeg))
  | .new _ => 1 ≤ mc ∧ b ≤ ms ∧ K nx L (.ref (32 + h.length) :: st) (h ++ [.inr (a, dfV a b)]) (mc - 1) (ms - b)
  | .checkcast _ => pR st (fun p s => 32 ≤ p ∧ cA xs h p (fun k _ => k = 0 ∧ K nx L (.ref p :: s) h mc ms))
  | .invokestatic _ => (match kd with
    | 2 => pI st (fun y s => pI s (fun x s => catS s ≤ 8 ∧ K nx L (.int (if x < y then y else x) :: s) h mc ms))
    | 3 => pI st (fun y s => pI s (fun x s => catS s ≤ 8 ∧ K nx L (.int (if y < x then y else x) :: s) h mc ms))
    | 4 => pI st (fun n s => pI s (fun dp s => pR s (fun q s => pI s (fun sp s => pR s (fun p s => 32 ≤ p ∧ 32 ≤ q ∧ catS s ≤ 8 ∧ cA xs h p (fun k f => cA xs h q (fun k2 g => k2 = k ∧ (k = 0 ∨ k = 1) ∧ ¬ sp < 0 ∧ ¬ dp < 0 ∧ ¬ n < 0 ∧ sp.toNatClampNeg + n.toNatClampNeg ≤ f.length ∧ dp.toNatClampNeg + n.toNatClampNeg ≤ g.length ∧ (k = 1 → ∀ x ∈ f, x = 0 ∨ x = 1) ∧
        K nx L s (h.set (q - 32) (.inl (k, cpL f g sp.toNatClampNeg dp.toNatClampNeg n.toNatClampNeg))) mc ms)))))))
    | _ => b ≤ st.length ∧ cal call (fun s h mc ms => K nx L s h mc ms) a (st.take b).reverse (st.drop b) h mc ms)
  | .invokevirtual _ => (match kd with
    | 5 => pR st (fun p s => 32 ≤ p ∧ catS s ≤ 8 ∧ cA xs h p (fun k l => k = 0 ∧ 1 ≤ mc ∧ l.length ≤ ms ∧ K nx L (.ref (32 + h.length) :: s) (h ++ [.inl (0, l)]) (mc - 1) (ms - l.length)))
    | _ => b ≤ st.length ∧ pR (st.drop b) (fun p s => cO xs h p (mCn a) (fun _ => cal call (fun s h mc ms => K nx L s h mc ms) a (.ref p :: (st.take b).reverse) s h mc ms)))
  | .invokespecial _ => (match kd with
    | 12 => pR st (fun p s => catS s ≤ 8 ∧ K nx L s h mc ms)
    | _ => b ≤ st.length ∧ pR (st.drop b) (fun p s => 32 ≤ p ∧ cal call (fun s h mc ms => K nx L s h mc ms) a (.ref p :: (st.take b).reverse) s h mc ms))
  | .ireturn => pI st (fun x s => s = [] ∧ (match mRt y with
    | some .int => Q (some (.int x)) h
    | some .boolean => (x = 0 ∨ x = 1) ∧ Q (some (.int x)) h
    | some .byte => (-128 ≤ x ∧ x ≤ 127) ∧ Q (some (.int x)) h
    | _ => False))
  | .areturn => pV st (fun u s => s = [] ∧ (∀ z, u ≠ .int z) ∧ Q (some u) h)
  | .return_ => st = [] ∧ Q none h
  | _ => False
/-- a method's run from an instruction on: the least that its instructions give -/
def gw (xs : List Int32) (call : CT) (y : Nat) (Q : QT) : KT := fun pc L st h mc ms =>
  ∀ P : KT, (∀ pc L st h mc ms r, smI y pc = some r → stp xs call y Q P r pc L st h mc ms → P pc L st h mc ms) → P pc L st h mc ms
def slV (vs : List Value) : LoS := vs.flatMap fun v => if v.category = 2 then [some v, none] else [some v]
def entL (n : Nat) (vs : List Value) : LoS := slV vs ++ List.replicate (n - (slV vs).length) none
/-- a method's run at a depth -/
def WP (xs : List Int32) : Nat → CT
  | 0 => fun _ _ _ _ _ _ => False
  | d + 1 => fun y mc ms args h Q => (slV args).length ≤ mMx y ∧ gw xs (WP xs d) y Q 0 (entL (mMx y) args) [] h mc ms
-- what a weaker end asks
theorem pI_m {st : List Value} {f g : Int32 → List Value → Prop} (h : ∀ x s, f x s → g x s) : pI st f → pI st g := by
  unfold pI
  split
  · exact h _ _
  · exact id
theorem pL_m {st : List Value} {f g : Int64 → List Value → Prop} (h : ∀ x s, f x s → g x s) : pL st f → pL st g := by
  unfold pL
  split
  · exact h _ _
  · exact id
theorem pR_m {st : List Value} {f g : Nat → List Value → Prop} (h : ∀ x s, f x s → g x s) : pR st f → pR st g := by
  unfold pR
  split
  · exact h _ _
  · exact id
theorem pV_m {st : List Value} {f g : Value → List Value → Prop} (h : ∀ x s, f x s → g x s) : pV st f → pV st g := by
  unfold pV
  split
  · split
    · exact h _ _
    · exact id
  · exact id
theorem gI_m {L : LoS} {i : Nat} {f g : Int32 → Prop} (h : ∀ x, f x → g x) : gI L i f → gI L i g := by
  unfold gI
  split
  · exact h _
  · exact id
theorem gL_m {L : LoS} {i : Nat} {f g : Int64 → Prop} (h : ∀ x, f x → g x) : gL L i f → gL L i g := by
  unfold gL
  split
  · exact h _
  · exact id
theorem gA_m {L : LoS} {i : Nat} {f g : Value → Prop} (h : ∀ x, f x → g x) : gA L i f → gA L i g := by
  unfold gA
  split
  · exact h _
  · exact h _
  · exact id
theorem sL_m {L : LoS} {i : Nat} {v : Value} {f g : LoS → Prop} (h : ∀ x, f x → g x) : sL L i v f → sL L i v g := by
  unfold sL
  split
  · exact h _
  · exact id
theorem cO_m {xs : List Int32} {h : AH} {p c : Nat} {f g : List Value → Prop} (q : ∀ x, f x → g x) : cO xs h p c f → cO xs h p c g := by
  unfold cO
  split
  · split
    · exact q _
    · exact id
  · exact id
theorem cA_m {xs : List Int32} {h : AH} {p : Nat} {f g : Nat → List Int32 → Prop} (q : ∀ k x, f k x → g k x) : cA xs h p f → cA xs h p g := by
  unfold cA
  split
  · exact q _ _
  · exact id
theorem fO_m {fs : List Value} {k : Nat} {f g : Value → Prop} (q : ∀ x, f x → g x) : fO fs k f → fO fs k g := by
  unfold fO
  split
  · exact q _
  · exact id
theorem an_m {A B B' : Prop} (h : B → B') : A ∧ B → A ∧ B' := fun q => ⟨q.1, h q.2⟩
theorem if_m {c : Prop} {_ : Decidable c} {A B A' B' : Prop} (h1 : A → A') (h2 : B → B') : (if c then A else B) → (if c then A' else B') := by
  split
  · exact h1
  · exact h2
theorem cal_m {call : CT} {K K' : List Value → AH → Nat → Nat → Prop} (hc : ∀ a mc ms args h Q Q', (∀ r h', Q r h' → Q' r h') → call a mc ms args h Q → call a mc ms args h Q') (hK : ∀ s h mc ms, K s h mc ms → K' s h mc ms) {a : Nat} {args rest : List Value} {h : AH} {mc ms : Nat} : cal call K a args rest h mc ms → cal call K' a args rest h mc ms := by
  rintro ⟨h1, mc', ms', h2, h3, h4⟩
  exact ⟨h1, mc', ms', h2, h3, hc _ _ _ _ _ _ _ (fun r h' q => hK _ _ _ _ q) h4⟩
set_option maxHeartbeats 2000000 in
theorem stp_m {xs : List Int32} {call : CT} {y : Nat} {Q Q' : QT} {K K' : KT} (hc : ∀ a mc ms args h Q Q', (∀ r h', Q r h' → Q' r h') → call a mc ms args h Q → call a mc ms args h Q') (hQ : ∀ r h, Q r h → Q' r h) (hK : ∀ pc L st h mc ms, K pc L st h mc ms → K' pc L st h mc ms) {r : RI} {pc : Nat} {L : LoS} {st : List Value} {h : AH} {mc ms : Nat} : stp xs call y Q K r pc L st h mc ms → stp xs call y Q' K' r pc L st h mc ms := by
  obtain ⟨i, nx, kd, a, b, v⟩ := r
  unfold stp
  dsimp only
  split
  all_goals repeat' (first | exact id | exact hK _ _ _ _ _ _ | exact hQ _ _ | refine pI_m (fun _ _ => ?_) | refine pL_m (fun _ _ => ?_) | refine pR_m (fun _ _ => ?_) | refine pV_m (fun _ _ => ?_) | refine gI_m (fun _ => ?_) | refine gL_m (fun _ => ?_) | refine gA_m (fun _ => ?_) | refine sL_m (fun _ => ?_) | refine cO_m (fun _ => ?_) | refine cA_m (fun _ _ => ?_) | refine fO_m (fun _ => ?_) | refine cal_m hc (fun _ _ _ _ => ?_) | refine if_m ?_ ?_ | refine an_m ?_ | split)
theorem gw_step {xs : List Int32} {call : CT} {y : Nat} {Q : QT} (hc : ∀ a mc ms args h Q Q', (∀ r h', Q r h' → Q' r h') → call a mc ms args h Q → call a mc ms args h Q') {pc : Nat} {L : LoS} {st : List Value} {h : AH} {mc ms : Nat} {r : RI} (hr : smI y pc = some r) (hs : stp xs call y Q (gw xs call y Q) r pc L st h mc ms) : gw xs call y Q pc L st h mc ms := by
  intro P hP
  exact hP _ _ _ _ _ _ _ hr (stp_m hc (fun _ _ q => q) (fun pc L st h mc ms q => q P hP) hs)
theorem gw_m {xs : List Int32} {call : CT} {y : Nat} {Q Q' : QT} (hc : ∀ a mc ms args h Q Q', (∀ r h', Q r h' → Q' r h') → call a mc ms args h Q → call a mc ms args h Q') (hQ : ∀ r h, Q r h → Q' r h) {pc : Nat} {L : LoS} {st : List Value} {h : AH} {mc ms : Nat} (g : gw xs call y Q pc L st h mc ms) : gw xs call y Q' pc L st h mc ms := by
  refine g _ (fun pc L st h mc ms r hr hs => ?_)
  exact gw_step hc hr (stp_m hc hQ (fun _ _ _ _ _ _ q => q) hs)
theorem WP_m (xs : List Int32) : ∀ d a mc ms args h Q Q', (∀ r h', Q r h' → Q' r h') → WP xs d a mc ms args h Q → WP xs d a mc ms args h Q' := by
  intro d
  induction d with
  | zero => intro a mc ms args h Q Q' _ q; exact q.elim
  | succ d ih =>
    intro a mc ms args h Q Q' hQ q
    exact ⟨q.1, gw_m ih hQ q.2⟩
/-- the step at a depth -/
theorem gs {xs : List Int32} {d y : Nat} {Q : QT} {pc : Nat} {L : LoS} {st : List Value} {h : AH} {mc ms : Nat} {r : RI} (hr : smI y pc = some r) (hs : stp xs (WP xs d) y Q (gw xs (WP xs d) y Q) r pc L st h mc ms) : gw xs (WP xs d) y Q pc L st h mc ms := gw_step (WP_m xs d) hr hs
end
section
/-! LEAVES -/
theorem ifT {c : Prop} {_ : Decidable c} {A B : Prop} (h : c) (a : A) : (if c then A else B) := by
  rw [if_pos h]
  exact a
theorem ifF {c : Prop} {_ : Decidable c} {A B : Prop} (h : ¬ c) (b : B) : (if c then A else B) := by
  rw [if_neg h]
  exact b
theorem ifs {c : Prop} {_ : Decidable c} {A B : Prop} (a : c → A) (b : ¬ c → B) : (if c then A else B) := by
  by_cases h : c
  · exact ifT h (a h)
  · exact ifF h (b h)
/-- a call that needs no room -/
theorem cl0 {call : CT} {K : List Value → AH → Nat → Nat → Prop} {a : Nat} {args rest : List Value} {h : AH} {mc ms : Nat} (hcat : catS rest ≤ 8) (hc : call a 0 0 args h (fun r h' => K (r.toList ++ rest) h' mc ms)) : cal call K a args rest h mc ms := ⟨hcat, 0, 0, Nat.zero_le _, Nat.zero_le _, hc⟩
/-- a call that makes cells -/
theorem cl {call : CT} {K : List Value → AH → Nat → Nat → Prop} {a : Nat} {args rest : List Value} {h : AH} {mc ms : Nat} (mc' ms' : Nat) (hcat : catS rest ≤ 8) (h1 : mc' ≤ mc) (h2 : ms' ≤ ms) (hc : call a mc' ms' args h (fun r h' => K (r.toList ++ rest) h' (mc - mc') (ms - ms'))) : cal call K a args rest h mc ms := ⟨hcat, mc', ms', h1, h2, hc⟩
theorem and_i {A B : Prop} (a : A) (b : B) : A ∧ B := ⟨a, b⟩
theorem and_2 {A B C : Prop} (a : A) (b : B) (c : C) : A ∧ B ∧ C := ⟨a, b, c⟩
theorem and_3 {A B C D : Prop} (a : A) (b : B) (c : C) (d : D) : A ∧ B ∧ C ∧ D := ⟨a, b, c, d⟩
theorem and_4 {A B C D E : Prop} (a : A) (b : B) (c : C) (d : D) (e : E) : A ∧ B ∧ C ∧ D ∧ E := ⟨a, b, c, d, e⟩
theorem vin {i : Int32} {n : Nat} (h : decide (¬ (i < 0 ∨ n ≤ i.toNatClampNeg)) = true) : vp_in i n := by
  unfold vp_in
  exact of_decide_eq_true h
theorem lt_k {x y : Int32} {a b : Int} (ha : x.toInt = a) (hb : y.toInt = b) : x < y ↔ a < b := by rw [Int32.lt_iff_toInt_lt, ha, hb]
theorem le_k {x y : Int32} {a b : Int} (ha : x.toInt = a) (hb : y.toInt = b) : x ≤ y ↔ a ≤ b := by rw [Int32.le_iff_toInt_le, ha, hb]
theorem eq_k {x y : Int32} {a b : Int} (ha : x.toInt = a) (hb : y.toInt = b) : x = y ↔ a = b := by rw [← ha, ← hb, Int32.toInt_inj]
theorem sub_k {x y : Int32} {a b : Int} (ha : x.toInt = a) (hb : y.toInt = b) (h1 : -2147483648 ≤ a - b) (h2 : a - b ≤ 2147483647) : (x - y).toInt = a - b := by
  rw [Int32.toInt_sub, ha, hb]
  exact Int.bmod_eq_of_le (by omega) (by omega)
theorem add_k {x y : Int32} {a b : Int} (ha : x.toInt = a) (hb : y.toInt = b) (h1 : -2147483648 ≤ a + b) (h2 : a + b ≤ 2147483647) : (x + y).toInt = a + b := by
  rw [Int32.toInt_add, ha, hb]
  exact Int.bmod_eq_of_le (by omega) (by omega)
theorem nat_of {x : Int32} {lo hi : Nat} (h1 : (lo : Int) ≤ x.toInt) (h2 : x.toInt ≤ (hi : Int)) : ∃ j : Nat, (lo ≤ j ∧ j ≤ hi) ∧ x = Int32.ofNat j := by
  refine ⟨x.toInt.toNat, ⟨by omega, by omega⟩, ?_⟩
  apply Int32.toInt_inj.mp
  have h3 := Int32.toInt_lt x
  have h4 := nI_toInt (n := x.toInt.toNat) (by omega)
  unfold nI at h4
  rw [h4]
  omega
theorem gwh {xs : List Int32} {call : CT} {y : Nat} {Q : QT} {pc : Nat} {L : LoS} {st : List Value} {h h' : AH} {mc ms : Nat} (e : h = h') (g : gw xs call y Q pc L st h' mc ms) : gw xs call y Q pc L st h mc ms := by
  rw [e]
  exact g
theorem qh {Q : QT} {r : Option Value} {h h' : AH} (e : h = h') (g : Q r h') : Q r h := by
  rw [e]
  exact g
theorem alen_k {l : List Int32} {n : Nat} (h : l.length = n) : Int32.ofNat l.length = Int32.ofNat n := by rw [h]
theorem gwst {xs : List Int32} {call : CT} {y : Nat} {Q : QT} {pc : Nat} {L : LoS} {st st' : List Value} {h : AH} {mc ms : Nat} (e : st = st') (g : gw xs call y Q pc L st' h mc ms) : gw xs call y Q pc L st h mc ms := by
  rw [e]
  exact g
end
section
/-! LOOPS: an array filled, an array copied, steps with nobody there -/
theorem cA_i {xs : List Int32} {h : AH} {p k : Nat} {l : List Int32} {f : Nat → List Int32 → Prop} (e : smC xs h p = some (.inl (k, l))) (g : f k l) : cA xs h p f := by
  unfold cA
  rw [e]
  exact g
theorem vinN {n m : Nat} (h : n < m) (hm : m < 2 ^ 31) : vp_in (nI n) m := vp_in_nI h hm
theorem smC_set {xs : List Int32} {h : AH} {p q : Nat} {c : AC} (hq : 32 ≤ q) (hne : p ≠ q) : smC xs (h.set (q - 32) c) p = smC xs h p := by
  unfold smC
  by_cases hp : p < 32
  · rw [if_pos hp, if_pos hp]
  · rw [if_neg hp, if_neg hp, List.getElem?_set_ne (by omega)]
theorem smC_own {xs : List Int32} {h : AH} {q : Nat} {c c0 : AC} (hq : 32 ≤ q) (h0 : h[q - 32]? = some c0) : smC xs (h.set (q - 32) c) q = some c := by
  unfold smC
  rw [if_neg (by omega), List.getElem?_set_self (List.getElem?_eq_some_iff.mp h0).1]
theorem set_own {h : AH} {i : Nat} {c : AC} (h0 : h[i]? = some c) : h.set i c = h := by
  apply List.ext_getElem?
  intro j
  rw [List.getElem?_set]
  by_cases hj : i = j
  · subst hj
    rw [if_pos rfl, h0, if_pos (List.getElem?_eq_some_iff.mp h0).1]
  · rw [if_neg hj]
theorem take_step {f g : List Int32} {j : Nat} (hf : j < f.length) (hg : j < g.length) : (f.take j ++ g.drop j).set j (f.getD j 0) = f.take (j + 1) ++ g.drop (j + 1) := by
  apply List.ext_getElem?
  intro i
  have hl : (f.take j).length = j := by rw [List.length_take]; omega
  have hl2 : (f.take (j + 1)).length = j + 1 := by rw [List.length_take]; omega
  rw [List.getElem?_set]
  by_cases hi : j = i
  · subst hi
    rw [if_pos rfl, if_pos (by rw [List.length_append, hl, List.length_drop]; omega), List.getElem?_append_left (by omega), List.getElem?_take, if_pos (by omega), List.getD_eq_getElem?_getD, List.getElem?_eq_getElem hf]
    rfl
  · rw [if_neg hi]
    by_cases h2 : i < j
    · rw [List.getElem?_append_left (by omega), List.getElem?_append_left (by omega), List.getElem?_take, List.getElem?_take, if_pos h2, if_pos (by omega)]
    · rw [List.getElem?_append_right (by omega), List.getElem?_append_right (by omega), List.getElem?_drop, List.getElem?_drop, hl, hl2]
      congr 1
      omega
theorem ushr0 (x : Int32) : (x.toUInt32 >>> ((0 : Int32).toUInt32 &&& Int32.toUInt32 31)).toInt32 = x := by
  have e : ((0 : Int32).toUInt32 &&& Int32.toUInt32 31) = 0 := by decide
  rw [e]
  simp
theorem set_e {h : AH} {i : Nat} {c c' : AC} (e : c = c') : h.set i c = h.set i c' := by rw [e]
theorem set_n0 {h : AH} {i : Nat} {a c c' : AC} (e : c = c') : (h.set i a).set i c = h.set i c' := by rw [List.set_set, e]
theorem set_n1 {h : AH} {i j : Nat} {a c c' bj : AC} (hj : i ≠ j) (e : c = c') : ((h.set i a).set j bj).set i c = (h.set j bj).set i c' := by
  subst e
  apply List.ext_getElem?
  intro z
  simp only [List.getElem?_set, List.length_set]
  by_cases hz : i = z
  · subst hz
    simp
  · simp [hz]
theorem set_n2 {h : AH} {i j k : Nat} {a c c' bj bk : AC} (hj : i ≠ j) (hk : i ≠ k) (e : c = c') : (((h.set i a).set j bj).set k bk).set i c = ((h.set j bj).set k bk).set i c' := by
  subst e
  apply List.ext_getElem?
  intro z
  simp only [List.getElem?_set, List.length_set]
  by_cases hz : i = z
  · subst hz
    simp
  · simp [hz]
theorem set_n3 {h : AH} {i j k l : Nat} {a c c' bj bk bl : AC} (hj : i ≠ j) (hk : i ≠ k) (hl : i ≠ l) (e : c = c') : ((((h.set i a).set j bj).set k bk).set l bl).set i c = (((h.set j bj).set k bk).set l bl).set i c' := by
  subst e
  apply List.ext_getElem?
  intro z
  simp only [List.getElem?_set, List.length_set]
  by_cases hz : i = z
  · subst hz
    simp
  · simp [hz]
theorem set_n4 {h : AH} {i j k l m : Nat} {a c c' bj bk bl bm : AC} (hj : i ≠ j) (hk : i ≠ k) (hl : i ≠ l) (hm : i ≠ m) (e : c = c') : (((((h.set i a).set j bj).set k bk).set l bl).set m bm).set i c = ((((h.set j bj).set k bk).set l bl).set m bm).set i c' := by
  subst e
  apply List.ext_getElem?
  intro z
  simp only [List.getElem?_set, List.length_set]
  by_cases hz : i = z
  · subst hz
    simp
  · simp [hz]
theorem set_idem {h : AH} {i : Nat} {c c' : AC} (h0 : h[i]? = some c) (e : c' = c) : h.set i c' = h := by
  rw [e]
  exact set_own h0
theorem gwl {xs : List Int32} {call : CT} {y : Nat} {Q : QT} {pc : Nat} {L L' : LoS} {st : List Value} {h : AH} {mc ms : Nat} (e : L = L') (g : gw xs call y Q pc L' st h mc ms) : gw xs call y Q pc L st h mc ms := by
  rw [e]
  exact g
end
section
/-! A LEMMA AN INSTRUCTION: gw ahead of it out of gw behind it -/
theorem g_iconst {xs : List Int32} {d y : Nat} {Q : QT} {pc : Nat} {L : LoS} {st : List Value} {h : AH} {mc ms : Nat} {nx kd a b : Nat} {v : Int32} {n : Int} (hr : smI y pc = some (.iconst n, nx, kd, a, b, v))  (g : gw xs (WP xs d) y Q nx L (.int v :: st) h mc ms) : gw xs (WP xs d) y Q pc L st h mc ms := gs hr (by
  exact g)
theorem g_bipush {xs : List Int32} {d y : Nat} {Q : QT} {pc : Nat} {L : LoS} {st : List Value} {h : AH} {mc ms : Nat} {nx kd a b : Nat} {v : Int32} {n : Int} (hr : smI y pc = some (.bipush n, nx, kd, a, b, v))  (g : gw xs (WP xs d) y Q nx L (.int v :: st) h mc ms) : gw xs (WP xs d) y Q pc L st h mc ms := gs hr (by
  exact g)
theorem g_sipush {xs : List Int32} {d y : Nat} {Q : QT} {pc : Nat} {L : LoS} {st : List Value} {h : AH} {mc ms : Nat} {nx kd a b : Nat} {v : Int32} {n : Int} (hr : smI y pc = some (.sipush n, nx, kd, a, b, v))  (g : gw xs (WP xs d) y Q nx L (.int v :: st) h mc ms) : gw xs (WP xs d) y Q pc L st h mc ms := gs hr (by
  exact g)
theorem g_ldcw {xs : List Int32} {d y : Nat} {Q : QT} {pc : Nat} {L : LoS} {st : List Value} {h : AH} {mc ms : Nat} {nx kd a b : Nat} {v : Int32} {n : Nat} (hr : smI y pc = some (.ldc_w n, nx, kd, a, b, v))  (g : gw xs (WP xs d) y Q nx L (.int v :: st) h mc ms) : gw xs (WP xs d) y Q pc L st h mc ms := gs hr (by
  exact g)
theorem g_ldci {xs : List Int32} {d y : Nat} {Q : QT} {pc : Nat} {L : LoS} {st : List Value} {h : AH} {mc ms : Nat} {nx kd a b : Nat} {v : Int32} {n : Nat} (hr : smI y pc = some (.ldc n, nx, kd, a, b, v)) (ha : a = 0) (g : gw xs (WP xs d) y Q nx L (.int v :: st) h mc ms) : gw xs (WP xs d) y Q pc L st h mc ms := gs hr (by
  dsimp only [stp]
  rw [if_pos ha]
  exact g)
theorem g_ldcs {xs : List Int32} {d y : Nat} {Q : QT} {pc : Nat} {L : LoS} {st : List Value} {h : AH} {mc ms : Nat} {nx kd a b : Nat} {v : Int32} {n : Nat} (hr : smI y pc = some (.ldc n, nx, kd, a, b, v)) (ha : a ≠ 0) (g : gw xs (WP xs d) y Q nx L (.ref a :: st) h mc ms) : gw xs (WP xs d) y Q pc L st h mc ms := gs hr (by
  dsimp only [stp]
  rw [if_neg ha]
  exact g)
theorem g_ldc2 {xs : List Int32} {d y : Nat} {Q : QT} {pc : Nat} {L : LoS} {st : List Value} {h : AH} {mc ms : Nat} {nx kd a b : Nat} {v : Int32} {n : Nat} (hr : smI y pc = some (.ldc2_w n, nx, kd, a, b, v))  (g : gw xs (WP xs d) y Q nx L (.long (Int64.ofNat a) :: st) h mc ms) : gw xs (WP xs d) y Q pc L st h mc ms := gs hr (by
  exact g)
theorem g_null {xs : List Int32} {d y : Nat} {Q : QT} {pc : Nat} {L : LoS} {st : List Value} {h : AH} {mc ms : Nat} {nx kd a b : Nat} {v : Int32}  (hr : smI y pc = some (.aconst_null, nx, kd, a, b, v))  (g : gw xs (WP xs d) y Q nx L (.null :: st) h mc ms) : gw xs (WP xs d) y Q pc L st h mc ms := gs hr (by
  exact g)
theorem g_iload {xs : List Int32} {d y : Nat} {Q : QT} {pc : Nat} {L : LoS} {st : List Value} {h : AH} {mc ms : Nat} {nx kd a b : Nat} {v : Int32} {n : Nat} {x : Int32} (hr : smI y pc = some (.iload n, nx, kd, a, b, v)) (hl : L.getD n none = some (.int x)) (g : gw xs (WP xs d) y Q nx L (.int x :: st) h mc ms) : gw xs (WP xs d) y Q pc L st h mc ms := gs hr (by
  dsimp only [stp, gI]
  rw [hl]
  exact g)
theorem g_iload_n {xs : List Int32} {d y : Nat} {Q : QT} {pc : Nat} {L : LoS} {st : List Value} {h : AH} {mc ms : Nat} {nx kd a b : Nat} {v : Int32} {n : Fin 4} {x : Int32} (hr : smI y pc = some (.iload_n n, nx, kd, a, b, v)) (hl : L.getD n.val none = some (.int x)) (g : gw xs (WP xs d) y Q nx L (.int x :: st) h mc ms) : gw xs (WP xs d) y Q pc L st h mc ms := gs hr (by
  dsimp only [stp, gI]
  rw [hl]
  exact g)
theorem g_aload {xs : List Int32} {d y : Nat} {Q : QT} {pc : Nat} {L : LoS} {st : List Value} {h : AH} {mc ms : Nat} {nx kd a b : Nat} {v : Int32} {n : Nat} {x : Nat} (hr : smI y pc = some (.aload n, nx, kd, a, b, v)) (hl : L.getD n none = some (.ref x)) (g : gw xs (WP xs d) y Q nx L (.ref x :: st) h mc ms) : gw xs (WP xs d) y Q pc L st h mc ms := gs hr (by
  dsimp only [stp, gA]
  rw [hl]
  exact g)
theorem g_aloadN {xs : List Int32} {d y : Nat} {Q : QT} {pc : Nat} {L : LoS} {st : List Value} {h : AH} {mc ms : Nat} {nx kd a b : Nat} {v : Int32} {n : Nat} (hr : smI y pc = some (.aload n, nx, kd, a, b, v)) (hl : L.getD n none = some .null) (g : gw xs (WP xs d) y Q nx L (.null :: st) h mc ms) : gw xs (WP xs d) y Q pc L st h mc ms := gs hr (by
  dsimp only [stp, gA]
  rw [hl]
  exact g)
theorem g_aload_n {xs : List Int32} {d y : Nat} {Q : QT} {pc : Nat} {L : LoS} {st : List Value} {h : AH} {mc ms : Nat} {nx kd a b : Nat} {v : Int32} {n : Fin 4} {x : Nat} (hr : smI y pc = some (.aload_n n, nx, kd, a, b, v)) (hl : L.getD n.val none = some (.ref x)) (g : gw xs (WP xs d) y Q nx L (.ref x :: st) h mc ms) : gw xs (WP xs d) y Q pc L st h mc ms := gs hr (by
  dsimp only [stp, gA]
  rw [hl]
  exact g)
theorem g_aload_nN {xs : List Int32} {d y : Nat} {Q : QT} {pc : Nat} {L : LoS} {st : List Value} {h : AH} {mc ms : Nat} {nx kd a b : Nat} {v : Int32} {n : Fin 4} (hr : smI y pc = some (.aload_n n, nx, kd, a, b, v)) (hl : L.getD n.val none = some .null) (g : gw xs (WP xs d) y Q nx L (.null :: st) h mc ms) : gw xs (WP xs d) y Q pc L st h mc ms := gs hr (by
  dsimp only [stp, gA]
  rw [hl]
  exact g)
theorem g_lload_n {xs : List Int32} {d y : Nat} {Q : QT} {pc : Nat} {L : LoS} {st : List Value} {h : AH} {mc ms : Nat} {nx kd a b : Nat} {v : Int32} {n : Fin 4} {x : Int64} (hr : smI y pc = some (.lload_n n, nx, kd, a, b, v)) (hl : L.getD n.val none = some (.long x)) (g : gw xs (WP xs d) y Q nx L (.long x :: st) h mc ms) : gw xs (WP xs d) y Q pc L st h mc ms := gs hr (by
  dsimp only [stp, gL]
  rw [hl]
  exact g)
theorem g_istore {xs : List Int32} {d y : Nat} {Q : QT} {pc : Nat} {L : LoS} {st : List Value} {h : AH} {mc ms : Nat} {nx kd a b : Nat} {v : Int32} {n : Nat} {x : Int32} {L2 : LoS} (hr : smI y pc = some (.istore n, nx, kd, a, b, v)) (hk : okS L n = true) (hl : L.set n (some (.int x)) = L2) (g : gw xs (WP xs d) y Q nx L2 st h mc ms) : gw xs (WP xs d) y Q pc L (.int x :: st) h mc ms := gs hr (by
  dsimp only [stp, pI, pR, sL]
  rw [if_pos hk, hl]
  exact g)
theorem g_istore_n {xs : List Int32} {d y : Nat} {Q : QT} {pc : Nat} {L : LoS} {st : List Value} {h : AH} {mc ms : Nat} {nx kd a b : Nat} {v : Int32} {n : Fin 4} {x : Int32} {L2 : LoS} (hr : smI y pc = some (.istore_n n, nx, kd, a, b, v)) (hk : okS L n.val = true) (hl : L.set n.val (some (.int x)) = L2) (g : gw xs (WP xs d) y Q nx L2 st h mc ms) : gw xs (WP xs d) y Q pc L (.int x :: st) h mc ms := gs hr (by
  dsimp only [stp, pI, pR, sL]
  rw [if_pos hk, hl]
  exact g)
theorem g_astore {xs : List Int32} {d y : Nat} {Q : QT} {pc : Nat} {L : LoS} {st : List Value} {h : AH} {mc ms : Nat} {nx kd a b : Nat} {v : Int32} {n : Nat} {x : Nat} {L2 : LoS} (hr : smI y pc = some (.astore n, nx, kd, a, b, v)) (hk : okS L n = true) (hl : L.set n (some (.ref x)) = L2) (g : gw xs (WP xs d) y Q nx L2 st h mc ms) : gw xs (WP xs d) y Q pc L (.ref x :: st) h mc ms := gs hr (by
  dsimp only [stp, pI, pR, sL]
  rw [if_pos hk, hl]
  exact g)
theorem g_astore_n {xs : List Int32} {d y : Nat} {Q : QT} {pc : Nat} {L : LoS} {st : List Value} {h : AH} {mc ms : Nat} {nx kd a b : Nat} {v : Int32} {n : Fin 4} {x : Nat} {L2 : LoS} (hr : smI y pc = some (.astore_n n, nx, kd, a, b, v)) (hk : okS L n.val = true) (hl : L.set n.val (some (.ref x)) = L2) (g : gw xs (WP xs d) y Q nx L2 st h mc ms) : gw xs (WP xs d) y Q pc L (.ref x :: st) h mc ms := gs hr (by
  dsimp only [stp, pI, pR, sL]
  rw [if_pos hk, hl]
  exact g)
theorem g_iinc {xs : List Int32} {d y : Nat} {Q : QT} {pc : Nat} {L : LoS} {st : List Value} {h : AH} {mc ms : Nat} {nx kd a b : Nat} {v : Int32} {n : Nat} {w : Int} {x x2 : Int32} {L2 : LoS} (hr : smI y pc = some (.iinc n w, nx, kd, a, b, v)) (hl : L.getD n none = some (.int x)) (hx : x + v = x2) (hk : okS L n = true) (hl2 : L.set n (some (.int x2)) = L2) (g : gw xs (WP xs d) y Q nx L2 st h mc ms) : gw xs (WP xs d) y Q pc L st h mc ms := gs hr (by
  dsimp only [stp, gI, sL]
  rw [hl]
  dsimp only
  rw [if_pos hk, hx, hl2]
  exact g)
theorem g_iadd {xs : List Int32} {d y : Nat} {Q : QT} {pc : Nat} {L : LoS} {st : List Value} {h : AH} {mc ms : Nat} {nx kd a b : Nat} {v : Int32} {x z u : Int32} (hr : smI y pc = some (.iadd, nx, kd, a, b, v)) (hu : x + z = u) (g : gw xs (WP xs d) y Q nx L (.int u :: st) h mc ms) : gw xs (WP xs d) y Q pc L (.int z :: .int x :: st) h mc ms := gs hr (by
  dsimp only [stp, pI]
  rw [hu]
  exact g)
theorem g_isub {xs : List Int32} {d y : Nat} {Q : QT} {pc : Nat} {L : LoS} {st : List Value} {h : AH} {mc ms : Nat} {nx kd a b : Nat} {v : Int32} {x z u : Int32} (hr : smI y pc = some (.isub, nx, kd, a, b, v)) (hu : x - z = u) (g : gw xs (WP xs d) y Q nx L (.int u :: st) h mc ms) : gw xs (WP xs d) y Q pc L (.int z :: .int x :: st) h mc ms := gs hr (by
  dsimp only [stp, pI]
  rw [hu]
  exact g)
theorem g_imul {xs : List Int32} {d y : Nat} {Q : QT} {pc : Nat} {L : LoS} {st : List Value} {h : AH} {mc ms : Nat} {nx kd a b : Nat} {v : Int32} {x z u : Int32} (hr : smI y pc = some (.imul, nx, kd, a, b, v)) (hu : x * z = u) (g : gw xs (WP xs d) y Q nx L (.int u :: st) h mc ms) : gw xs (WP xs d) y Q pc L (.int z :: .int x :: st) h mc ms := gs hr (by
  dsimp only [stp, pI]
  rw [hu]
  exact g)
theorem g_iand {xs : List Int32} {d y : Nat} {Q : QT} {pc : Nat} {L : LoS} {st : List Value} {h : AH} {mc ms : Nat} {nx kd a b : Nat} {v : Int32} {x z u : Int32} (hr : smI y pc = some (.iand, nx, kd, a, b, v)) (hu : x &&& z = u) (g : gw xs (WP xs d) y Q nx L (.int u :: st) h mc ms) : gw xs (WP xs d) y Q pc L (.int z :: .int x :: st) h mc ms := gs hr (by
  dsimp only [stp, pI]
  rw [hu]
  exact g)
theorem g_ior {xs : List Int32} {d y : Nat} {Q : QT} {pc : Nat} {L : LoS} {st : List Value} {h : AH} {mc ms : Nat} {nx kd a b : Nat} {v : Int32} {x z u : Int32} (hr : smI y pc = some (.ior, nx, kd, a, b, v)) (hu : x ||| z = u) (g : gw xs (WP xs d) y Q nx L (.int u :: st) h mc ms) : gw xs (WP xs d) y Q pc L (.int z :: .int x :: st) h mc ms := gs hr (by
  dsimp only [stp, pI]
  rw [hu]
  exact g)
theorem g_ixor {xs : List Int32} {d y : Nat} {Q : QT} {pc : Nat} {L : LoS} {st : List Value} {h : AH} {mc ms : Nat} {nx kd a b : Nat} {v : Int32} {x z u : Int32} (hr : smI y pc = some (.ixor, nx, kd, a, b, v)) (hu : x ^^^ z = u) (g : gw xs (WP xs d) y Q nx L (.int u :: st) h mc ms) : gw xs (WP xs d) y Q pc L (.int z :: .int x :: st) h mc ms := gs hr (by
  dsimp only [stp, pI]
  rw [hu]
  exact g)
theorem g_ishl {xs : List Int32} {d y : Nat} {Q : QT} {pc : Nat} {L : LoS} {st : List Value} {h : AH} {mc ms : Nat} {nx kd a b : Nat} {v : Int32} {x z u : Int32} (hr : smI y pc = some (.ishl, nx, kd, a, b, v)) (hu : x <<< (z &&& 31) = u) (g : gw xs (WP xs d) y Q nx L (.int u :: st) h mc ms) : gw xs (WP xs d) y Q pc L (.int z :: .int x :: st) h mc ms := gs hr (by
  dsimp only [stp, pI]
  rw [hu]
  exact g)
theorem g_ishr {xs : List Int32} {d y : Nat} {Q : QT} {pc : Nat} {L : LoS} {st : List Value} {h : AH} {mc ms : Nat} {nx kd a b : Nat} {v : Int32} {x z u : Int32} (hr : smI y pc = some (.ishr, nx, kd, a, b, v)) (hu : x >>> (z &&& 31) = u) (g : gw xs (WP xs d) y Q nx L (.int u :: st) h mc ms) : gw xs (WP xs d) y Q pc L (.int z :: .int x :: st) h mc ms := gs hr (by
  dsimp only [stp, pI]
  rw [hu]
  exact g)
theorem g_iushr {xs : List Int32} {d y : Nat} {Q : QT} {pc : Nat} {L : LoS} {st : List Value} {h : AH} {mc ms : Nat} {nx kd a b : Nat} {v : Int32} {x z u : Int32} (hr : smI y pc = some (.iushr, nx, kd, a, b, v)) (hu : (x.toUInt32 >>> (z.toUInt32 &&& Int32.toUInt32 31)).toInt32 = u) (g : gw xs (WP xs d) y Q nx L (.int u :: st) h mc ms) : gw xs (WP xs d) y Q pc L (.int z :: .int x :: st) h mc ms := gs hr (by
  dsimp only [stp, pI]
  rw [hu]
  exact g)
theorem g_idiv {xs : List Int32} {d y : Nat} {Q : QT} {pc : Nat} {L : LoS} {st : List Value} {h : AH} {mc ms : Nat} {nx kd a b : Nat} {v : Int32} {x z u : Int32} (hr : smI y pc = some (.idiv, nx, kd, a, b, v)) (h0 : ¬ z = 0) (hu : x / z = u) (g : gw xs (WP xs d) y Q nx L (.int u :: st) h mc ms) : gw xs (WP xs d) y Q pc L (.int z :: .int x :: st) h mc ms := gs hr (by
  dsimp only [stp, pI]
  rw [hu]
  exact ⟨h0, g⟩)
theorem g_irem {xs : List Int32} {d y : Nat} {Q : QT} {pc : Nat} {L : LoS} {st : List Value} {h : AH} {mc ms : Nat} {nx kd a b : Nat} {v : Int32} {x z u : Int32} (hr : smI y pc = some (.irem, nx, kd, a, b, v)) (h0 : ¬ z = 0) (hu : x - x / z * z = u) (g : gw xs (WP xs d) y Q nx L (.int u :: st) h mc ms) : gw xs (WP xs d) y Q pc L (.int z :: .int x :: st) h mc ms := gs hr (by
  dsimp only [stp, pI]
  rw [hu]
  exact ⟨h0, g⟩)
theorem g_ineg {xs : List Int32} {d y : Nat} {Q : QT} {pc : Nat} {L : LoS} {st : List Value} {h : AH} {mc ms : Nat} {nx kd a b : Nat} {v : Int32} {x u : Int32} (hr : smI y pc = some (.ineg, nx, kd, a, b, v)) (hu : -x = u) (g : gw xs (WP xs d) y Q nx L (.int u :: st) h mc ms) : gw xs (WP xs d) y Q pc L (.int x :: st) h mc ms := gs hr (by
  dsimp only [stp, pI]
  rw [hu]
  exact g)
theorem g_i2l {xs : List Int32} {d y : Nat} {Q : QT} {pc : Nat} {L : LoS} {st : List Value} {h : AH} {mc ms : Nat} {nx kd a b : Nat} {v : Int32} {x : Int32} (hr : smI y pc = some (.i2l, nx, kd, a, b, v))  (g : gw xs (WP xs d) y Q nx L (.long x.toInt64 :: st) h mc ms) : gw xs (WP xs d) y Q pc L (.int x :: st) h mc ms := gs hr (by
  exact g)
theorem g_l2i {xs : List Int32} {d y : Nat} {Q : QT} {pc : Nat} {L : LoS} {st : List Value} {h : AH} {mc ms : Nat} {nx kd a b : Nat} {v : Int32} {x : Int64} (hr : smI y pc = some (.l2i, nx, kd, a, b, v))  (g : gw xs (WP xs d) y Q nx L (.int x.toInt32 :: st) h mc ms) : gw xs (WP xs d) y Q pc L (.long x :: st) h mc ms := gs hr (by
  exact g)
theorem g_i2b {xs : List Int32} {d y : Nat} {Q : QT} {pc : Nat} {L : LoS} {st : List Value} {h : AH} {mc ms : Nat} {nx kd a b : Nat} {v : Int32} {x u : Int32} (hr : smI y pc = some (.i2b, nx, kd, a, b, v)) (hu : x.toInt8.toInt32 = u) (g : gw xs (WP xs d) y Q nx L (.int u :: st) h mc ms) : gw xs (WP xs d) y Q pc L (.int x :: st) h mc ms := gs hr (by
  dsimp only [stp, pI]
  rw [hu]
  exact g)
theorem g_i2s {xs : List Int32} {d y : Nat} {Q : QT} {pc : Nat} {L : LoS} {st : List Value} {h : AH} {mc ms : Nat} {nx kd a b : Nat} {v : Int32} {x u : Int32} (hr : smI y pc = some (.i2s, nx, kd, a, b, v)) (hu : x.toInt16.toInt32 = u) (g : gw xs (WP xs d) y Q nx L (.int u :: st) h mc ms) : gw xs (WP xs d) y Q pc L (.int x :: st) h mc ms := gs hr (by
  dsimp only [stp, pI]
  rw [hu]
  exact g)
theorem g_i2c {xs : List Int32} {d y : Nat} {Q : QT} {pc : Nat} {L : LoS} {st : List Value} {h : AH} {mc ms : Nat} {nx kd a b : Nat} {v : Int32} {x u : Int32} (hr : smI y pc = some (.i2c, nx, kd, a, b, v)) (hu : (x.toUInt32 % 65536).toInt32 = u) (g : gw xs (WP xs d) y Q nx L (.int u :: st) h mc ms) : gw xs (WP xs d) y Q pc L (.int x :: st) h mc ms := gs hr (by
  dsimp only [stp, pI]
  rw [hu]
  exact g)
theorem g_land {xs : List Int32} {d y : Nat} {Q : QT} {pc : Nat} {L : LoS} {st : List Value} {h : AH} {mc ms : Nat} {nx kd a b : Nat} {v : Int32} {x z : Int64} (hr : smI y pc = some (.land, nx, kd, a, b, v))  (g : gw xs (WP xs d) y Q nx L (.long (x &&& z) :: st) h mc ms) : gw xs (WP xs d) y Q pc L (.long z :: .long x :: st) h mc ms := gs hr (by
  exact g)
theorem g_lor {xs : List Int32} {d y : Nat} {Q : QT} {pc : Nat} {L : LoS} {st : List Value} {h : AH} {mc ms : Nat} {nx kd a b : Nat} {v : Int32} {x z : Int64} (hr : smI y pc = some (.lor, nx, kd, a, b, v))  (g : gw xs (WP xs d) y Q nx L (.long (x ||| z) :: st) h mc ms) : gw xs (WP xs d) y Q pc L (.long z :: .long x :: st) h mc ms := gs hr (by
  exact g)
theorem g_lshl {xs : List Int32} {d y : Nat} {Q : QT} {pc : Nat} {L : LoS} {st : List Value} {h : AH} {mc ms : Nat} {nx kd a b : Nat} {v : Int32} {x : Int64} {z : Int32} (hr : smI y pc = some (.lshl, nx, kd, a, b, v))  (g : gw xs (WP xs d) y Q nx L (.long (x <<< (z.toInt64 &&& 63)) :: st) h mc ms) : gw xs (WP xs d) y Q pc L (.int z :: .long x :: st) h mc ms := gs hr (by
  exact g)
theorem g_lshr {xs : List Int32} {d y : Nat} {Q : QT} {pc : Nat} {L : LoS} {st : List Value} {h : AH} {mc ms : Nat} {nx kd a b : Nat} {v : Int32} {x : Int64} {z : Int32} (hr : smI y pc = some (.lshr, nx, kd, a, b, v))  (g : gw xs (WP xs d) y Q nx L (.long (x >>> (z.toInt64 &&& 63)) :: st) h mc ms) : gw xs (WP xs d) y Q pc L (.int z :: .long x :: st) h mc ms := gs hr (by
  exact g)
theorem g_lushr {xs : List Int32} {d y : Nat} {Q : QT} {pc : Nat} {L : LoS} {st : List Value} {h : AH} {mc ms : Nat} {nx kd a b : Nat} {v : Int32} {x : Int64} {z : Int32} (hr : smI y pc = some (.lushr, nx, kd, a, b, v))  (g : gw xs (WP xs d) y Q nx L (.long ((x.toUInt64 >>> (z.toInt64.toUInt64 &&& Int64.toUInt64 63)).toInt64) :: st) h mc ms) : gw xs (WP xs d) y Q pc L (.int z :: .long x :: st) h mc ms := gs hr (by
  exact g)
theorem g_dup {xs : List Int32} {d y : Nat} {Q : QT} {pc : Nat} {L : LoS} {st : List Value} {h : AH} {mc ms : Nat} {nx kd a b : Nat} {v : Int32} {u : Value} (hr : smI y pc = some (.dup, nx, kd, a, b, v)) (hu : c1V u = true) (g : gw xs (WP xs d) y Q nx L (u :: u :: st) h mc ms) : gw xs (WP xs d) y Q pc L (u :: st) h mc ms := gs hr (by
  dsimp only [stp, pV]
  rw [if_pos hu]
  exact g)
theorem g_pop {xs : List Int32} {d y : Nat} {Q : QT} {pc : Nat} {L : LoS} {st : List Value} {h : AH} {mc ms : Nat} {nx kd a b : Nat} {v : Int32} {u : Value} (hr : smI y pc = some (.pop, nx, kd, a, b, v)) (hu : c1V u = true) (g : gw xs (WP xs d) y Q nx L st h mc ms) : gw xs (WP xs d) y Q pc L (u :: st) h mc ms := gs hr (by
  dsimp only [stp, pV]
  rw [if_pos hu]
  exact g)
theorem g_dup2 {xs : List Int32} {d y : Nat} {Q : QT} {pc : Nat} {L : LoS} {st : List Value} {h : AH} {mc ms : Nat} {nx kd a b : Nat} {v : Int32} {u w : Value} (hr : smI y pc = some (.dup2, nx, kd, a, b, v)) (hu : c1V u = true) (hw : c1V w = true) (g : gw xs (WP xs d) y Q nx L (u :: w :: u :: w :: st) h mc ms) : gw xs (WP xs d) y Q pc L (u :: w :: st) h mc ms := gs hr (by
  dsimp only [stp, pV]
  rw [if_pos hu, if_pos hw]
  exact g)
theorem g_goto {xs : List Int32} {d y : Nat} {Q : QT} {pc : Nat} {L : LoS} {st : List Value} {h : AH} {mc ms : Nat} {nx kd a b : Nat} {v : Int32} {w : Int} (hr : smI y pc = some (.goto w, nx, kd, a, b, v))  (g : gw xs (WP xs d) y Q a L st h mc ms) : gw xs (WP xs d) y Q pc L st h mc ms := gs hr (by
  exact g)
theorem g_ic_eqT {xs : List Int32} {d y : Nat} {Q : QT} {pc : Nat} {L : LoS} {st : List Value} {h : AH} {mc ms : Nat} {nx kd a b : Nat} {v : Int32} {x z : Int32} {w : Int} (hr : smI y pc = some (.if_icmp .eq w, nx, kd, a, b, v)) (hc : (x = z)) (g : gw xs (WP xs d) y Q a L st h mc ms) : gw xs (WP xs d) y Q pc L (.int z :: .int x :: st) h mc ms := gs hr (by
  dsimp only [stp, pI]
  rw [if_pos hc]
  exact g)
theorem g_ic_eqF {xs : List Int32} {d y : Nat} {Q : QT} {pc : Nat} {L : LoS} {st : List Value} {h : AH} {mc ms : Nat} {nx kd a b : Nat} {v : Int32} {x z : Int32} {w : Int} (hr : smI y pc = some (.if_icmp .eq w, nx, kd, a, b, v)) (hc : ¬ (x = z)) (g : gw xs (WP xs d) y Q nx L st h mc ms) : gw xs (WP xs d) y Q pc L (.int z :: .int x :: st) h mc ms := gs hr (by
  dsimp only [stp, pI]
  rw [if_neg hc]
  exact g)
theorem g_ic_eq {xs : List Int32} {d y : Nat} {Q : QT} {pc : Nat} {L : LoS} {st : List Value} {h : AH} {mc ms : Nat} {nx kd a b : Nat} {v : Int32} {x z : Int32} {w : Int} (hr : smI y pc = some (.if_icmp .eq w, nx, kd, a, b, v)) (gT : x = z → gw xs (WP xs d) y Q a L st h mc ms) (gF : ¬ (x = z) → gw xs (WP xs d) y Q nx L st h mc ms) : gw xs (WP xs d) y Q pc L (.int z :: .int x :: st) h mc ms := by
  by_cases hc : x = z
  · exact g_ic_eqT hr hc (gT hc)
  · exact g_ic_eqF hr hc (gF hc)
theorem g_if_eqT {xs : List Int32} {d y : Nat} {Q : QT} {pc : Nat} {L : LoS} {st : List Value} {h : AH} {mc ms : Nat} {nx kd a b : Nat} {v : Int32} {x : Int32} {w : Int} (hr : smI y pc = some (.ifCond .eq w, nx, kd, a, b, v)) (hc : (x = 0)) (g : gw xs (WP xs d) y Q a L st h mc ms) : gw xs (WP xs d) y Q pc L (.int x :: st) h mc ms := gs hr (by
  dsimp only [stp, pI]
  rw [if_pos hc]
  exact g)
theorem g_if_eqF {xs : List Int32} {d y : Nat} {Q : QT} {pc : Nat} {L : LoS} {st : List Value} {h : AH} {mc ms : Nat} {nx kd a b : Nat} {v : Int32} {x : Int32} {w : Int} (hr : smI y pc = some (.ifCond .eq w, nx, kd, a, b, v)) (hc : ¬ (x = 0)) (g : gw xs (WP xs d) y Q nx L st h mc ms) : gw xs (WP xs d) y Q pc L (.int x :: st) h mc ms := gs hr (by
  dsimp only [stp, pI]
  rw [if_neg hc]
  exact g)
theorem g_if_eq {xs : List Int32} {d y : Nat} {Q : QT} {pc : Nat} {L : LoS} {st : List Value} {h : AH} {mc ms : Nat} {nx kd a b : Nat} {v : Int32} {x : Int32} {w : Int} (hr : smI y pc = some (.ifCond .eq w, nx, kd, a, b, v)) (gT : x = 0 → gw xs (WP xs d) y Q a L st h mc ms) (gF : ¬ (x = 0) → gw xs (WP xs d) y Q nx L st h mc ms) : gw xs (WP xs d) y Q pc L (.int x :: st) h mc ms := by
  by_cases hc : x = 0
  · exact g_if_eqT hr hc (gT hc)
  · exact g_if_eqF hr hc (gF hc)
theorem g_ic_neT {xs : List Int32} {d y : Nat} {Q : QT} {pc : Nat} {L : LoS} {st : List Value} {h : AH} {mc ms : Nat} {nx kd a b : Nat} {v : Int32} {x z : Int32} {w : Int} (hr : smI y pc = some (.if_icmp .ne w, nx, kd, a, b, v)) (hc : (x = z)) (g : gw xs (WP xs d) y Q nx L st h mc ms) : gw xs (WP xs d) y Q pc L (.int z :: .int x :: st) h mc ms := gs hr (by
  dsimp only [stp, pI]
  rw [if_pos hc]
  exact g)
theorem g_ic_neF {xs : List Int32} {d y : Nat} {Q : QT} {pc : Nat} {L : LoS} {st : List Value} {h : AH} {mc ms : Nat} {nx kd a b : Nat} {v : Int32} {x z : Int32} {w : Int} (hr : smI y pc = some (.if_icmp .ne w, nx, kd, a, b, v)) (hc : ¬ (x = z)) (g : gw xs (WP xs d) y Q a L st h mc ms) : gw xs (WP xs d) y Q pc L (.int z :: .int x :: st) h mc ms := gs hr (by
  dsimp only [stp, pI]
  rw [if_neg hc]
  exact g)
theorem g_ic_ne {xs : List Int32} {d y : Nat} {Q : QT} {pc : Nat} {L : LoS} {st : List Value} {h : AH} {mc ms : Nat} {nx kd a b : Nat} {v : Int32} {x z : Int32} {w : Int} (hr : smI y pc = some (.if_icmp .ne w, nx, kd, a, b, v)) (gT : x = z → gw xs (WP xs d) y Q nx L st h mc ms) (gF : ¬ (x = z) → gw xs (WP xs d) y Q a L st h mc ms) : gw xs (WP xs d) y Q pc L (.int z :: .int x :: st) h mc ms := by
  by_cases hc : x = z
  · exact g_ic_neT hr hc (gT hc)
  · exact g_ic_neF hr hc (gF hc)
theorem g_if_neT {xs : List Int32} {d y : Nat} {Q : QT} {pc : Nat} {L : LoS} {st : List Value} {h : AH} {mc ms : Nat} {nx kd a b : Nat} {v : Int32} {x : Int32} {w : Int} (hr : smI y pc = some (.ifCond .ne w, nx, kd, a, b, v)) (hc : (x = 0)) (g : gw xs (WP xs d) y Q nx L st h mc ms) : gw xs (WP xs d) y Q pc L (.int x :: st) h mc ms := gs hr (by
  dsimp only [stp, pI]
  rw [if_pos hc]
  exact g)
theorem g_if_neF {xs : List Int32} {d y : Nat} {Q : QT} {pc : Nat} {L : LoS} {st : List Value} {h : AH} {mc ms : Nat} {nx kd a b : Nat} {v : Int32} {x : Int32} {w : Int} (hr : smI y pc = some (.ifCond .ne w, nx, kd, a, b, v)) (hc : ¬ (x = 0)) (g : gw xs (WP xs d) y Q a L st h mc ms) : gw xs (WP xs d) y Q pc L (.int x :: st) h mc ms := gs hr (by
  dsimp only [stp, pI]
  rw [if_neg hc]
  exact g)
theorem g_if_ne {xs : List Int32} {d y : Nat} {Q : QT} {pc : Nat} {L : LoS} {st : List Value} {h : AH} {mc ms : Nat} {nx kd a b : Nat} {v : Int32} {x : Int32} {w : Int} (hr : smI y pc = some (.ifCond .ne w, nx, kd, a, b, v)) (gT : x = 0 → gw xs (WP xs d) y Q nx L st h mc ms) (gF : ¬ (x = 0) → gw xs (WP xs d) y Q a L st h mc ms) : gw xs (WP xs d) y Q pc L (.int x :: st) h mc ms := by
  by_cases hc : x = 0
  · exact g_if_neT hr hc (gT hc)
  · exact g_if_neF hr hc (gF hc)
theorem g_ic_ltT {xs : List Int32} {d y : Nat} {Q : QT} {pc : Nat} {L : LoS} {st : List Value} {h : AH} {mc ms : Nat} {nx kd a b : Nat} {v : Int32} {x z : Int32} {w : Int} (hr : smI y pc = some (.if_icmp .lt w, nx, kd, a, b, v)) (hc : (x < z)) (g : gw xs (WP xs d) y Q a L st h mc ms) : gw xs (WP xs d) y Q pc L (.int z :: .int x :: st) h mc ms := gs hr (by
  dsimp only [stp, pI]
  rw [if_pos hc]
  exact g)
theorem g_ic_ltF {xs : List Int32} {d y : Nat} {Q : QT} {pc : Nat} {L : LoS} {st : List Value} {h : AH} {mc ms : Nat} {nx kd a b : Nat} {v : Int32} {x z : Int32} {w : Int} (hr : smI y pc = some (.if_icmp .lt w, nx, kd, a, b, v)) (hc : ¬ (x < z)) (g : gw xs (WP xs d) y Q nx L st h mc ms) : gw xs (WP xs d) y Q pc L (.int z :: .int x :: st) h mc ms := gs hr (by
  dsimp only [stp, pI]
  rw [if_neg hc]
  exact g)
theorem g_ic_lt {xs : List Int32} {d y : Nat} {Q : QT} {pc : Nat} {L : LoS} {st : List Value} {h : AH} {mc ms : Nat} {nx kd a b : Nat} {v : Int32} {x z : Int32} {w : Int} (hr : smI y pc = some (.if_icmp .lt w, nx, kd, a, b, v)) (gT : x < z → gw xs (WP xs d) y Q a L st h mc ms) (gF : ¬ (x < z) → gw xs (WP xs d) y Q nx L st h mc ms) : gw xs (WP xs d) y Q pc L (.int z :: .int x :: st) h mc ms := by
  by_cases hc : x < z
  · exact g_ic_ltT hr hc (gT hc)
  · exact g_ic_ltF hr hc (gF hc)
theorem g_if_ltT {xs : List Int32} {d y : Nat} {Q : QT} {pc : Nat} {L : LoS} {st : List Value} {h : AH} {mc ms : Nat} {nx kd a b : Nat} {v : Int32} {x : Int32} {w : Int} (hr : smI y pc = some (.ifCond .lt w, nx, kd, a, b, v)) (hc : (x < 0)) (g : gw xs (WP xs d) y Q a L st h mc ms) : gw xs (WP xs d) y Q pc L (.int x :: st) h mc ms := gs hr (by
  dsimp only [stp, pI]
  rw [if_pos hc]
  exact g)
theorem g_if_ltF {xs : List Int32} {d y : Nat} {Q : QT} {pc : Nat} {L : LoS} {st : List Value} {h : AH} {mc ms : Nat} {nx kd a b : Nat} {v : Int32} {x : Int32} {w : Int} (hr : smI y pc = some (.ifCond .lt w, nx, kd, a, b, v)) (hc : ¬ (x < 0)) (g : gw xs (WP xs d) y Q nx L st h mc ms) : gw xs (WP xs d) y Q pc L (.int x :: st) h mc ms := gs hr (by
  dsimp only [stp, pI]
  rw [if_neg hc]
  exact g)
theorem g_if_lt {xs : List Int32} {d y : Nat} {Q : QT} {pc : Nat} {L : LoS} {st : List Value} {h : AH} {mc ms : Nat} {nx kd a b : Nat} {v : Int32} {x : Int32} {w : Int} (hr : smI y pc = some (.ifCond .lt w, nx, kd, a, b, v)) (gT : x < 0 → gw xs (WP xs d) y Q a L st h mc ms) (gF : ¬ (x < 0) → gw xs (WP xs d) y Q nx L st h mc ms) : gw xs (WP xs d) y Q pc L (.int x :: st) h mc ms := by
  by_cases hc : x < 0
  · exact g_if_ltT hr hc (gT hc)
  · exact g_if_ltF hr hc (gF hc)
theorem g_ic_geT {xs : List Int32} {d y : Nat} {Q : QT} {pc : Nat} {L : LoS} {st : List Value} {h : AH} {mc ms : Nat} {nx kd a b : Nat} {v : Int32} {x z : Int32} {w : Int} (hr : smI y pc = some (.if_icmp .ge w, nx, kd, a, b, v)) (hc : (z ≤ x)) (g : gw xs (WP xs d) y Q a L st h mc ms) : gw xs (WP xs d) y Q pc L (.int z :: .int x :: st) h mc ms := gs hr (by
  dsimp only [stp, pI]
  rw [if_pos hc]
  exact g)
theorem g_ic_geF {xs : List Int32} {d y : Nat} {Q : QT} {pc : Nat} {L : LoS} {st : List Value} {h : AH} {mc ms : Nat} {nx kd a b : Nat} {v : Int32} {x z : Int32} {w : Int} (hr : smI y pc = some (.if_icmp .ge w, nx, kd, a, b, v)) (hc : ¬ (z ≤ x)) (g : gw xs (WP xs d) y Q nx L st h mc ms) : gw xs (WP xs d) y Q pc L (.int z :: .int x :: st) h mc ms := gs hr (by
  dsimp only [stp, pI]
  rw [if_neg hc]
  exact g)
theorem g_ic_ge {xs : List Int32} {d y : Nat} {Q : QT} {pc : Nat} {L : LoS} {st : List Value} {h : AH} {mc ms : Nat} {nx kd a b : Nat} {v : Int32} {x z : Int32} {w : Int} (hr : smI y pc = some (.if_icmp .ge w, nx, kd, a, b, v)) (gT : z ≤ x → gw xs (WP xs d) y Q a L st h mc ms) (gF : ¬ (z ≤ x) → gw xs (WP xs d) y Q nx L st h mc ms) : gw xs (WP xs d) y Q pc L (.int z :: .int x :: st) h mc ms := by
  by_cases hc : z ≤ x
  · exact g_ic_geT hr hc (gT hc)
  · exact g_ic_geF hr hc (gF hc)
theorem g_if_geT {xs : List Int32} {d y : Nat} {Q : QT} {pc : Nat} {L : LoS} {st : List Value} {h : AH} {mc ms : Nat} {nx kd a b : Nat} {v : Int32} {x : Int32} {w : Int} (hr : smI y pc = some (.ifCond .ge w, nx, kd, a, b, v)) (hc : (0 ≤ x)) (g : gw xs (WP xs d) y Q a L st h mc ms) : gw xs (WP xs d) y Q pc L (.int x :: st) h mc ms := gs hr (by
  dsimp only [stp, pI]
  rw [if_pos hc]
  exact g)
theorem g_if_geF {xs : List Int32} {d y : Nat} {Q : QT} {pc : Nat} {L : LoS} {st : List Value} {h : AH} {mc ms : Nat} {nx kd a b : Nat} {v : Int32} {x : Int32} {w : Int} (hr : smI y pc = some (.ifCond .ge w, nx, kd, a, b, v)) (hc : ¬ (0 ≤ x)) (g : gw xs (WP xs d) y Q nx L st h mc ms) : gw xs (WP xs d) y Q pc L (.int x :: st) h mc ms := gs hr (by
  dsimp only [stp, pI]
  rw [if_neg hc]
  exact g)
theorem g_if_ge {xs : List Int32} {d y : Nat} {Q : QT} {pc : Nat} {L : LoS} {st : List Value} {h : AH} {mc ms : Nat} {nx kd a b : Nat} {v : Int32} {x : Int32} {w : Int} (hr : smI y pc = some (.ifCond .ge w, nx, kd, a, b, v)) (gT : 0 ≤ x → gw xs (WP xs d) y Q a L st h mc ms) (gF : ¬ (0 ≤ x) → gw xs (WP xs d) y Q nx L st h mc ms) : gw xs (WP xs d) y Q pc L (.int x :: st) h mc ms := by
  by_cases hc : 0 ≤ x
  · exact g_if_geT hr hc (gT hc)
  · exact g_if_geF hr hc (gF hc)
theorem g_ic_gtT {xs : List Int32} {d y : Nat} {Q : QT} {pc : Nat} {L : LoS} {st : List Value} {h : AH} {mc ms : Nat} {nx kd a b : Nat} {v : Int32} {x z : Int32} {w : Int} (hr : smI y pc = some (.if_icmp .gt w, nx, kd, a, b, v)) (hc : (z < x)) (g : gw xs (WP xs d) y Q a L st h mc ms) : gw xs (WP xs d) y Q pc L (.int z :: .int x :: st) h mc ms := gs hr (by
  dsimp only [stp, pI]
  rw [if_pos hc]
  exact g)
theorem g_ic_gtF {xs : List Int32} {d y : Nat} {Q : QT} {pc : Nat} {L : LoS} {st : List Value} {h : AH} {mc ms : Nat} {nx kd a b : Nat} {v : Int32} {x z : Int32} {w : Int} (hr : smI y pc = some (.if_icmp .gt w, nx, kd, a, b, v)) (hc : ¬ (z < x)) (g : gw xs (WP xs d) y Q nx L st h mc ms) : gw xs (WP xs d) y Q pc L (.int z :: .int x :: st) h mc ms := gs hr (by
  dsimp only [stp, pI]
  rw [if_neg hc]
  exact g)
theorem g_ic_gt {xs : List Int32} {d y : Nat} {Q : QT} {pc : Nat} {L : LoS} {st : List Value} {h : AH} {mc ms : Nat} {nx kd a b : Nat} {v : Int32} {x z : Int32} {w : Int} (hr : smI y pc = some (.if_icmp .gt w, nx, kd, a, b, v)) (gT : z < x → gw xs (WP xs d) y Q a L st h mc ms) (gF : ¬ (z < x) → gw xs (WP xs d) y Q nx L st h mc ms) : gw xs (WP xs d) y Q pc L (.int z :: .int x :: st) h mc ms := by
  by_cases hc : z < x
  · exact g_ic_gtT hr hc (gT hc)
  · exact g_ic_gtF hr hc (gF hc)
theorem g_if_gtT {xs : List Int32} {d y : Nat} {Q : QT} {pc : Nat} {L : LoS} {st : List Value} {h : AH} {mc ms : Nat} {nx kd a b : Nat} {v : Int32} {x : Int32} {w : Int} (hr : smI y pc = some (.ifCond .gt w, nx, kd, a, b, v)) (hc : (0 < x)) (g : gw xs (WP xs d) y Q a L st h mc ms) : gw xs (WP xs d) y Q pc L (.int x :: st) h mc ms := gs hr (by
  dsimp only [stp, pI]
  rw [if_pos hc]
  exact g)
theorem g_if_gtF {xs : List Int32} {d y : Nat} {Q : QT} {pc : Nat} {L : LoS} {st : List Value} {h : AH} {mc ms : Nat} {nx kd a b : Nat} {v : Int32} {x : Int32} {w : Int} (hr : smI y pc = some (.ifCond .gt w, nx, kd, a, b, v)) (hc : ¬ (0 < x)) (g : gw xs (WP xs d) y Q nx L st h mc ms) : gw xs (WP xs d) y Q pc L (.int x :: st) h mc ms := gs hr (by
  dsimp only [stp, pI]
  rw [if_neg hc]
  exact g)
theorem g_if_gt {xs : List Int32} {d y : Nat} {Q : QT} {pc : Nat} {L : LoS} {st : List Value} {h : AH} {mc ms : Nat} {nx kd a b : Nat} {v : Int32} {x : Int32} {w : Int} (hr : smI y pc = some (.ifCond .gt w, nx, kd, a, b, v)) (gT : 0 < x → gw xs (WP xs d) y Q a L st h mc ms) (gF : ¬ (0 < x) → gw xs (WP xs d) y Q nx L st h mc ms) : gw xs (WP xs d) y Q pc L (.int x :: st) h mc ms := by
  by_cases hc : 0 < x
  · exact g_if_gtT hr hc (gT hc)
  · exact g_if_gtF hr hc (gF hc)
theorem g_ic_leT {xs : List Int32} {d y : Nat} {Q : QT} {pc : Nat} {L : LoS} {st : List Value} {h : AH} {mc ms : Nat} {nx kd a b : Nat} {v : Int32} {x z : Int32} {w : Int} (hr : smI y pc = some (.if_icmp .le w, nx, kd, a, b, v)) (hc : (x ≤ z)) (g : gw xs (WP xs d) y Q a L st h mc ms) : gw xs (WP xs d) y Q pc L (.int z :: .int x :: st) h mc ms := gs hr (by
  dsimp only [stp, pI]
  rw [if_pos hc]
  exact g)
theorem g_ic_leF {xs : List Int32} {d y : Nat} {Q : QT} {pc : Nat} {L : LoS} {st : List Value} {h : AH} {mc ms : Nat} {nx kd a b : Nat} {v : Int32} {x z : Int32} {w : Int} (hr : smI y pc = some (.if_icmp .le w, nx, kd, a, b, v)) (hc : ¬ (x ≤ z)) (g : gw xs (WP xs d) y Q nx L st h mc ms) : gw xs (WP xs d) y Q pc L (.int z :: .int x :: st) h mc ms := gs hr (by
  dsimp only [stp, pI]
  rw [if_neg hc]
  exact g)
theorem g_ic_le {xs : List Int32} {d y : Nat} {Q : QT} {pc : Nat} {L : LoS} {st : List Value} {h : AH} {mc ms : Nat} {nx kd a b : Nat} {v : Int32} {x z : Int32} {w : Int} (hr : smI y pc = some (.if_icmp .le w, nx, kd, a, b, v)) (gT : x ≤ z → gw xs (WP xs d) y Q a L st h mc ms) (gF : ¬ (x ≤ z) → gw xs (WP xs d) y Q nx L st h mc ms) : gw xs (WP xs d) y Q pc L (.int z :: .int x :: st) h mc ms := by
  by_cases hc : x ≤ z
  · exact g_ic_leT hr hc (gT hc)
  · exact g_ic_leF hr hc (gF hc)
theorem g_if_leT {xs : List Int32} {d y : Nat} {Q : QT} {pc : Nat} {L : LoS} {st : List Value} {h : AH} {mc ms : Nat} {nx kd a b : Nat} {v : Int32} {x : Int32} {w : Int} (hr : smI y pc = some (.ifCond .le w, nx, kd, a, b, v)) (hc : (x ≤ 0)) (g : gw xs (WP xs d) y Q a L st h mc ms) : gw xs (WP xs d) y Q pc L (.int x :: st) h mc ms := gs hr (by
  dsimp only [stp, pI]
  rw [if_pos hc]
  exact g)
theorem g_if_leF {xs : List Int32} {d y : Nat} {Q : QT} {pc : Nat} {L : LoS} {st : List Value} {h : AH} {mc ms : Nat} {nx kd a b : Nat} {v : Int32} {x : Int32} {w : Int} (hr : smI y pc = some (.ifCond .le w, nx, kd, a, b, v)) (hc : ¬ (x ≤ 0)) (g : gw xs (WP xs d) y Q nx L st h mc ms) : gw xs (WP xs d) y Q pc L (.int x :: st) h mc ms := gs hr (by
  dsimp only [stp, pI]
  rw [if_neg hc]
  exact g)
theorem g_if_le {xs : List Int32} {d y : Nat} {Q : QT} {pc : Nat} {L : LoS} {st : List Value} {h : AH} {mc ms : Nat} {nx kd a b : Nat} {v : Int32} {x : Int32} {w : Int} (hr : smI y pc = some (.ifCond .le w, nx, kd, a, b, v)) (gT : x ≤ 0 → gw xs (WP xs d) y Q a L st h mc ms) (gF : ¬ (x ≤ 0) → gw xs (WP xs d) y Q nx L st h mc ms) : gw xs (WP xs d) y Q pc L (.int x :: st) h mc ms := by
  by_cases hc : x ≤ 0
  · exact g_if_leT hr hc (gT hc)
  · exact g_if_leF hr hc (gF hc)
theorem g_ifnullN {xs : List Int32} {d y : Nat} {Q : QT} {pc : Nat} {L : LoS} {st : List Value} {h : AH} {mc ms : Nat} {nx kd a b : Nat} {v : Int32} {w : Int} (hr : smI y pc = some (.ifnull w, nx, kd, a, b, v))  (g : gw xs (WP xs d) y Q a L st h mc ms) : gw xs (WP xs d) y Q pc L (.null :: st) h mc ms := gs hr (by
  exact g)
theorem g_ifnullR {xs : List Int32} {d y : Nat} {Q : QT} {pc : Nat} {L : LoS} {st : List Value} {h : AH} {mc ms : Nat} {nx kd a b : Nat} {v : Int32} {w : Int} {q : Nat} (hr : smI y pc = some (.ifnull w, nx, kd, a, b, v))  (g : gw xs (WP xs d) y Q nx L st h mc ms) : gw xs (WP xs d) y Q pc L (.ref q :: st) h mc ms := gs hr (by
  exact g)
theorem g_ifnonnullN {xs : List Int32} {d y : Nat} {Q : QT} {pc : Nat} {L : LoS} {st : List Value} {h : AH} {mc ms : Nat} {nx kd a b : Nat} {v : Int32} {w : Int} (hr : smI y pc = some (.ifnonnull w, nx, kd, a, b, v))  (g : gw xs (WP xs d) y Q nx L st h mc ms) : gw xs (WP xs d) y Q pc L (.null :: st) h mc ms := gs hr (by
  exact g)
theorem g_ifnonnullR {xs : List Int32} {d y : Nat} {Q : QT} {pc : Nat} {L : LoS} {st : List Value} {h : AH} {mc ms : Nat} {nx kd a b : Nat} {v : Int32} {w : Int} {q : Nat} (hr : smI y pc = some (.ifnonnull w, nx, kd, a, b, v))  (g : gw xs (WP xs d) y Q a L st h mc ms) : gw xs (WP xs d) y Q pc L (.ref q :: st) h mc ms := gs hr (by
  exact g)
theorem g_gf {xs : List Int32} {d y : Nat} {Q : QT} {pc : Nat} {L : LoS} {st : List Value} {h : AH} {mc ms : Nat} {nx kd a b : Nat} {v : Int32} {n q : Nat} {fs : List Value} {u : Value} (hr : smI y pc = some (.getfield n, nx, kd, a, b, v)) (hc : smC xs h q = some (.inr (a, fs))) (hu : fs[b]? = some u) (g : gw xs (WP xs d) y Q nx L (u :: st) h mc ms) : gw xs (WP xs d) y Q pc L (.ref q :: st) h mc ms := gs hr (by
  dsimp only [stp, pR, cO, fO]
  rw [hc]
  dsimp only
  rw [if_pos rfl, hu]
  exact g)
theorem g_pf {xs : List Int32} {d y : Nat} {Q : QT} {pc : Nat} {L : LoS} {st : List Value} {h : AH} {mc ms : Nat} {nx kd a b : Nat} {v : Int32} {n q i : Nat} {fs fs2 : List Value} {u : Value} {h2 : AH} (hr : smI y pc = some (.putfield n, nx, kd, a, b, v)) (hu : c1V u = true) (hq : 32 ≤ q) (hc : smC xs h q = some (.inr (a, fs))) (hb : b < fs.length) (hf : fitV (tyT a b) u) (hfs : fs.set b u = fs2) (hi : q - 32 = i) (hh : h.set i (.inr (a, fs2)) = h2) (g : gw xs (WP xs d) y Q nx L st h2 mc ms) : gw xs (WP xs d) y Q pc L (u :: .ref q :: st) h mc ms := gs hr (by
  dsimp only [stp, pV, pR, cO]
  rw [if_pos hu, hc]
  dsimp only
  rw [if_pos rfl, hfs, hi, hh]
  exact ⟨hq, hb, hf, g⟩)
theorem g_gst {xs : List Int32} {d y : Nat} {Q : QT} {pc : Nat} {L : LoS} {st : List Value} {h : AH} {mc ms : Nat} {nx kd a b : Nat} {v : Int32} {n : Nat} {u : Value} (hr : smI y pc = some (.getstatic n, nx, kd, a, b, v)) (hu : (if a = 99 then Value.int 1 else .ref a) = u) (g : gw xs (WP xs d) y Q nx L (u :: st) h mc ms) : gw xs (WP xs d) y Q pc L st h mc ms := gs hr (by
  dsimp only [stp]
  rw [hu]
  exact g)
theorem g_iald {xs : List Int32} {d y : Nat} {Q : QT} {pc : Nat} {L : LoS} {st : List Value} {h : AH} {mc ms : Nat} {nx kd a b : Nat} {v : Int32} {q : Nat} {i x : Int32} {f : List Int32} (hr : smI y pc = some (.iaload, nx, kd, a, b, v)) (hc : smC xs h q = some (.inl (0, f))) (hi : vp_in i f.length) (hx : f.getD i.toNatClampNeg 0 = x) (g : gw xs (WP xs d) y Q nx L (.int x :: st) h mc ms) : gw xs (WP xs d) y Q pc L (.int i :: .ref q :: st) h mc ms := gs hr (by
  dsimp only [stp, pI, pR, cA]
  rw [hc]
  dsimp only
  rw [hx]
  exact ⟨rfl, hi, g⟩)
theorem g_bald {xs : List Int32} {d y : Nat} {Q : QT} {pc : Nat} {L : LoS} {st : List Value} {h : AH} {mc ms : Nat} {nx kd a b : Nat} {v : Int32} {q k : Nat} {i x : Int32} {f : List Int32} (hr : smI y pc = some (.baload, nx, kd, a, b, v)) (hc : smC xs h q = some (.inl (k, f))) (hk : (32 ≤ q ∧ k = 1) ∨ (q < 32 ∧ k = 3)) (hi : vp_in i f.length) (hx : f.getD i.toNatClampNeg 0 = x) (g : gw xs (WP xs d) y Q nx L (.int x :: st) h mc ms) : gw xs (WP xs d) y Q pc L (.int i :: .ref q :: st) h mc ms := gs hr (by
  dsimp only [stp, pI, pR, cA]
  rw [hc]
  dsimp only
  rw [hx]
  exact ⟨hk, hi, g⟩)
theorem g_aald {xs : List Int32} {d y : Nat} {Q : QT} {pc : Nat} {L : LoS} {st : List Value} {h : AH} {mc ms : Nat} {nx kd a b : Nat} {v : Int32} {q z : Nat} {i : Int32} {f : List Value} (hr : smI y pc = some (.aaload, nx, kd, a, b, v)) (hq : 32 ≤ q) (hc : smC xs h q = some (.inr (50, f))) (hi : vp_in i f.length) (hx : f[i.toNatClampNeg]? = some (.ref z)) (g : gw xs (WP xs d) y Q nx L (.ref z :: st) h mc ms) : gw xs (WP xs d) y Q pc L (.int i :: .ref q :: st) h mc ms := gs hr (by
  dsimp only [stp, pI, pR, cO, fO]
  rw [hc]
  dsimp only
  rw [if_pos rfl, hx]
  exact ⟨hq, hi, rfl, (fun z q => by cases q), g⟩)
theorem g_iast {xs : List Int32} {d y : Nat} {Q : QT} {pc : Nat} {L : LoS} {st : List Value} {h : AH} {mc ms : Nat} {nx kd a b : Nat} {v : Int32} {q j : Nat} {i x : Int32} {f f2 : List Int32} {h2 : AH} (hr : smI y pc = some (.iastore, nx, kd, a, b, v)) (hq : 32 ≤ q) (hc : smC xs h q = some (.inl (0, f))) (hi : vp_in i f.length) (hf : f.set i.toNatClampNeg x = f2) (hj : q - 32 = j) (hh : h.set j (.inl (0, f2)) = h2) (g : gw xs (WP xs d) y Q nx L st h2 mc ms) : gw xs (WP xs d) y Q pc L (.int x :: .int i :: .ref q :: st) h mc ms := gs hr (by
  dsimp only [stp, pI, pR, cA]
  rw [hc]
  dsimp only
  rw [hf, hj, hh]
  exact ⟨hq, rfl, hi, g⟩)
theorem g_bast {xs : List Int32} {d y : Nat} {Q : QT} {pc : Nat} {L : LoS} {st : List Value} {h : AH} {mc ms : Nat} {nx kd a b : Nat} {v : Int32} {q j : Nat} {i x : Int32} {f f2 : List Int32} {h2 : AH} (hr : smI y pc = some (.bastore, nx, kd, a, b, v)) (hq : 32 ≤ q) (hxx : x = 0 ∨ x = 1) (hc : smC xs h q = some (.inl (1, f))) (hi : vp_in i f.length) (hf : f.set i.toNatClampNeg x = f2) (hj : q - 32 = j) (hh : h.set j (.inl (1, f2)) = h2) (g : gw xs (WP xs d) y Q nx L st h2 mc ms) : gw xs (WP xs d) y Q pc L (.int x :: .int i :: .ref q :: st) h mc ms := gs hr (by
  dsimp only [stp, pI, pR, cA]
  rw [hc]
  dsimp only
  rw [hf, hj, hh]
  exact ⟨hq, hxx, rfl, hi, g⟩)
theorem g_alen {xs : List Int32} {d y : Nat} {Q : QT} {pc : Nat} {L : LoS} {st : List Value} {h : AH} {mc ms : Nat} {nx kd a b : Nat} {v : Int32} {q k n : Nat} {f : List Int32} (hr : smI y pc = some (.arraylength, nx, kd, a, b, v)) (hc : smC xs h q = some (.inl (k, f))) (hk : k = 0 ∨ k = 1 ∨ (q < 32 ∧ k = 3)) (hn : f.length = n) (g : gw xs (WP xs d) y Q nx L (.int (Int32.ofNat n) :: st) h mc ms) : gw xs (WP xs d) y Q pc L (.ref q :: st) h mc ms := gs hr (by
  dsimp only [stp, pR, cA]
  rw [hc]
  dsimp only
  rw [hn]
  exact ⟨hk, g⟩)
theorem g_max {xs : List Int32} {d y : Nat} {Q : QT} {pc : Nat} {L : LoS} {st : List Value} {h : AH} {mc ms : Nat} {nx a b n : Nat} {v x z u : Int32} (hr : smI y pc = some (.invokestatic n, nx, 2, a, b, v)) (hcat : catS st ≤ 8) (hu : (if x < z then z else x) = u) (g : gw xs (WP xs d) y Q nx L (.int u :: st) h mc ms) : gw xs (WP xs d) y Q pc L (.int z :: .int x :: st) h mc ms := gs hr (by
  show catS st ≤ 8 ∧ gw xs (WP xs d) y Q nx L (.int (if x < z then z else x) :: st) h mc ms
  rw [hu]
  exact ⟨hcat, g⟩)
theorem g_min {xs : List Int32} {d y : Nat} {Q : QT} {pc : Nat} {L : LoS} {st : List Value} {h : AH} {mc ms : Nat} {nx a b n : Nat} {v x z u : Int32} (hr : smI y pc = some (.invokestatic n, nx, 3, a, b, v)) (hcat : catS st ≤ 8) (hu : (if z < x then z else x) = u) (g : gw xs (WP xs d) y Q nx L (.int u :: st) h mc ms) : gw xs (WP xs d) y Q pc L (.int z :: .int x :: st) h mc ms := gs hr (by
  show catS st ≤ 8 ∧ gw xs (WP xs d) y Q nx L (.int (if z < x then z else x) :: st) h mc ms
  rw [hu]
  exact ⟨hcat, g⟩)
theorem g_cs {xs : List Int32} {d y : Nat} {Q : QT} {pc : Nat} {L : LoS} {st rest args : List Value} {h : AH} {mc ms : Nat} {nx a b n : Nat} {v : Int32} (kd : Nat) (hkd : kd = 0 ∨ kd = 1) (hr : smI y pc = some (.invokestatic n, nx, kd, a, b, v)) (hb : b ≤ st.length) (ht : (st.take b).reverse = args) (hd : st.drop b = rest) (hcat : catS rest ≤ 8) (g : WP xs d a 0 0 args h (fun r h2 => gw xs (WP xs d) y Q nx L (r.toList ++ rest) h2 mc ms)) : gw xs (WP xs d) y Q pc L st h mc ms := gs hr (by
  subst ht
  subst hd
  rcases hkd with rfl | rfl <;> exact ⟨hb, cl0 hcat g⟩)
theorem g_cv {xs : List Int32} {d y : Nat} {Q : QT} {pc : Nat} {L : LoS} {st rest args : List Value} {h : AH} {mc ms : Nat} {nx a b n : Nat} {v : Int32} {q : Nat} {fs : List Value} (hr : smI y pc = some (.invokevirtual n, nx, 20, a, b, v)) (hb : b ≤ st.length) (ht : (st.take b).reverse = args) (hd : st.drop b = .ref q :: rest) (hc : smC xs h q = some (.inr (mCn a, fs))) (hcat : catS rest ≤ 8) (g : WP xs d a 0 0 (.ref q :: args) h (fun r h2 => gw xs (WP xs d) y Q nx L (r.toList ++ rest) h2 mc ms)) : gw xs (WP xs d) y Q pc L st h mc ms := gs hr (by
  subst ht
  refine ⟨hb, ?_⟩
  rw [hd]
  dsimp only [pR, cO]
  rw [hc]
  dsimp only
  rw [if_pos rfl]
  exact cl0 hcat g)
theorem g_ci {xs : List Int32} {d y : Nat} {Q : QT} {pc : Nat} {L : LoS} {st rest args : List Value} {h : AH} {mc ms : Nat} {nx a b n : Nat} {v : Int32} {q : Nat} (kd : Nat) (hkd : kd = 10 ∨ kd = 11) (mc2 ms2 : Nat) (hr : smI y pc = some (.invokespecial n, nx, kd, a, b, v)) (hb : b ≤ st.length) (ht : (st.take b).reverse = args) (hd : st.drop b = .ref q :: rest) (hq : 32 ≤ q) (hcat : catS rest ≤ 8) (h1 : mc2 ≤ mc) (h2 : ms2 ≤ ms) (g : WP xs d a mc2 ms2 (.ref q :: args) h (fun r h2 => gw xs (WP xs d) y Q nx L (r.toList ++ rest) h2 (mc - mc2) (ms - ms2))) : gw xs (WP xs d) y Q pc L st h mc ms := gs hr (by
  subst ht
  rcases hkd with rfl | rfl
  all_goals
    refine ⟨hb, ?_⟩
    rw [hd]
    exact ⟨hq, cl mc2 ms2 hcat h1 h2 g⟩)
theorem g_iret {xs : List Int32} {d y : Nat} {Q : QT} {pc : Nat} {L : LoS} {h : AH} {mc ms : Nat} {nx kd a b : Nat} {v : Int32} {x : Int32} (hr : smI y pc = some (.ireturn, nx, kd, a, b, v)) (ht : mRt y = some .int) (g : Q (some (.int x)) h) : gw xs (WP xs d) y Q pc L [.int x] h mc ms := gs hr (by
  dsimp only [stp, pI]
  rw [ht]
  exact ⟨rfl, g⟩)
theorem g_zret {xs : List Int32} {d y : Nat} {Q : QT} {pc : Nat} {L : LoS} {h : AH} {mc ms : Nat} {nx kd a b : Nat} {v : Int32} {x : Int32} (hr : smI y pc = some (.ireturn, nx, kd, a, b, v)) (ht : mRt y = some .boolean) (hx : x = 0 ∨ x = 1) (g : Q (some (.int x)) h) : gw xs (WP xs d) y Q pc L [.int x] h mc ms := gs hr (by
  dsimp only [stp, pI]
  rw [ht]
  exact ⟨rfl, hx, g⟩)
theorem g_aret {xs : List Int32} {d y : Nat} {Q : QT} {pc : Nat} {L : LoS} {h : AH} {mc ms : Nat} {nx kd a b : Nat} {v : Int32} {x : Nat} (hr : smI y pc = some (.areturn, nx, kd, a, b, v)) (g : Q (some (.ref x)) h) : gw xs (WP xs d) y Q pc L [.ref x] h mc ms := gs hr ⟨rfl, (fun z q => by cases q), g⟩
theorem g_vret {xs : List Int32} {d y : Nat} {Q : QT} {pc : Nat} {L : LoS} {h : AH} {mc ms : Nat} {nx kd a b : Nat} {v : Int32} (hr : smI y pc = some (.return_, nx, kd, a, b, v)) (g : Q none h) : gw xs (WP xs d) y Q pc L [] h mc ms := gs hr ⟨rfl, g⟩
theorem wp_in {xs : List Int32} {d a mc ms : Nat} {as : List Value} {h : AH} {Q : QT} {L : LoS} (hl : (slV as).length ≤ mMx a) (hL : entL (mMx a) as = L) (g : gw xs (WP xs d) a Q 0 L [] h mc ms) : WP xs (d + 1) a mc ms as h Q := by
  subst hL
  exact ⟨hl, g⟩
end
section
/-! THE MEMORY: the words m k j of cell k (place 32 + k); the laws (three cells each) behind; a lemma an instruction -/
abbrev MW : Type := Nat → Nat → Int32
abbrev TM : Type := (Nat × Nat) ⊕ (Nat × List Nat)
def tmL : List TM := [.inr (6, [33, 42, 51, 60, 69, 72, 0, 75, 77, 79, 88]),
  .inr (4, [34, 35, 36, 37, 38, 39, 40, 41, 0, 0, 0, 1, 1]),
  .inl (0, 8),
  .inl (0, 8),
  .inl (0, 8),
  .inl (0, 8),
  .inl (0, 8),
  .inl (0, 8),
  .inl (1, 8),
  .inl (0, 8),
  .inr (4, [43, 44, 45, 46, 47, 48, 49, 50, 0, 0, 0, 1, 1]),
  .inl (0, 8),
  .inl (0, 8),
  .inl (0, 8),
  .inl (0, 8),
  .inl (0, 8),
  .inl (0, 8),
  .inl (1, 8),
  .inl (0, 8),
  .inr (4, [52, 53, 54, 55, 56, 57, 58, 59, 0, 0, 0, 1, 1]),
  .inl (0, 8),
  .inl (0, 8),
  .inl (0, 8),
  .inl (0, 8),
  .inl (0, 8),
  .inl (0, 8),
  .inl (1, 8),
  .inl (0, 8),
  .inr (4, [61, 62, 63, 64, 65, 66, 67, 68, 0, 0, 0, 1, 1]),
  .inl (0, 8),
  .inl (0, 8),
  .inl (0, 8),
  .inl (0, 8),
  .inl (0, 8),
  .inl (0, 8),
  .inl (1, 8),
  .inl (0, 8),
  .inr (0, [0, 70, 0, 71, 0]),
  .inl (0, 50),
  .inl (0, 20),
  .inr (0, [0, 73, 0, 74, 0]),
  .inl (0, 50),
  .inl (0, 20),
  .inr (2, [76, 0, 70, 0, 2, 0, 0]),
  .inl (0, 50),
  .inr (5, [0, 0, 0, 78, 0]),
  .inl (0, 40),
  .inr (50, [80, 82, 84, 86]),
  .inr (3, [0, 0, 81]),
  .inl (0, 40),
  .inr (3, [0, 0, 83]),
  .inl (0, 40),
  .inr (3, [0, 0, 85]),
  .inl (0, 40),
  .inr (3, [0, 0, 87]),
  .inl (0, 40),
  .inl (0, 6),
  .inr (7, [90, 91, 92, 93, 0, 0, 94, 0, 0, 0, 0, 0, 0, 0, 0, 95, 96, 97, 98, 99, 100, 0, 0, 0, 0]),
  .inl (0, 234),
  .inl (0, 234),
  .inl (0, 234),
  .inl (0, 234),
  .inl (0, 6),
  .inl (0, 4),
  .inl (0, 4),
  .inl (0, 160),
  .inl (0, 40),
  .inl (0, 8),
  .inl (0, 40)]
def tmF (ln : Nat → Nat) (k : Nat) : TM := if k < 69 then tmL.getD k (.inl (0, 0)) else if (k - 69) % 3 = 0 then .inr (1, [k + 33, k + 34]) else .inl (0, ln ((k - 69) / 3))
def lawV (x : Int32) : Value := if x = 0 then .null else .ref (98 + 3 * x.toNatClampNeg)
def fV (c : Nat) (x : Int32) : Value := match c with
  | 0 => .int x
  | 1 => lawV x
  | 2 => if x = 0 then .ref 3 else .ref 4
  | n + 3 => .ref (n + 3)
def celT (t : TM) (w : Nat → Int32) : AC := match t with
  | .inl (kd, n) => .inl (kd, (List.range n).map w)
  | .inr (ci, fs) => .inr (ci, (List.range fs.length).map (fun j => fV (fs.getD j 0) (w j)))
def H (m : MW) (ln : Nat → Nat) (N : Nat) : AH := (List.range (69 + 3 * N)).map (fun k => celT (tmF ln k) (m k))
def upmR (m : MW) (k : Nat) (w : Nat → Int32) : MW := fun k2 => if k2 = k then w else m k2
def upm (m : MW) (k j : Nat) (x : Int32) : MW := fun k2 j2 => if k2 = k ∧ j2 = j then x else m k2 j2
def TmAt (ln : Nat → Nat) (N k : Nat) (t : TM) : Prop := k < 69 + 3 * N ∧ tmF ln k = t
theorem upm_R (m : MW) (k j : Nat) (x : Int32) : upmR m k (fun i => if i = j then x else m k i) = upm m k j x := by
  funext k2 j2
  unfold upmR upm
  by_cases h : k2 = k
  · subst h
    simp
  · simp [h]
theorem upm_self (m : MW) (k j : Nat) (x : Int32) : upm m k j x k j = x := by simp [upm]
theorem upm_k (m : MW) {k j k2 j2 : Nat} (x : Int32) (h : k2 ≠ k) : upm m k j x k2 j2 = m k2 j2 := by simp [upm, h]
theorem upm_j (m : MW) {k j k2 j2 : Nat} (x : Int32) (h : j2 ≠ j) : upm m k j x k2 j2 = m k2 j2 := by simp [upm, h]
theorem H_len (m : MW) (ln : Nat → Nat) (N : Nat) : (H m ln N).length = 69 + 3 * N := by simp [H]
theorem H_get {m : MW} {ln : Nat → Nat} {N k : Nat} (hk : k < 69 + 3 * N) : (H m ln N)[k]? = some (celT (tmF ln k) (m k)) := by
  unfold H
  rw [List.getElem?_map, List.getElem?_range hk]
  rfl
theorem smC_H {xs : List Int32} {m : MW} {ln : Nat → Nat} {N k p : Nat} (hp : 32 + k = p) (hk : k < 69 + 3 * N) : smC xs (H m ln N) p = some (celT (tmF ln k) (m k)) := by
  subst hp
  unfold smC
  rw [if_neg (by omega), Nat.add_sub_cancel_left, H_get hk]
theorem H_set {m : MW} {ln : Nat → Nat} {N k : Nat} (hk : k < 69 + 3 * N) (w : Nat → Int32) : (H m ln N).set k (celT (tmF ln k) w) = H (upmR m k w) ln N := by
  apply List.ext_getElem?
  intro i
  rw [List.getElem?_set]
  by_cases hi : k = i
  · subst hi
    rw [if_pos rfl, H_len, if_pos hk, H_get hk]
    simp [upmR]
  · rw [if_neg hi]
    by_cases h2 : i < 69 + 3 * N
    · rw [H_get h2, H_get h2]
      have h3 : ¬ i = k := fun q => hi q.symm
      simp [upmR, h3]
    · rw [List.getElem?_eq_none (by rw [H_len]; omega), List.getElem?_eq_none (by rw [H_len]; omega)]
theorem range_set {α : Type} (n j : Nat) (w : Nat → α) (x : α) : ((List.range n).map w).set j x = (List.range n).map (fun i => if i = j then x else w i) := by
  apply List.ext_getElem?
  intro i
  rw [List.getElem?_set, List.getElem?_map, List.getElem?_map, List.length_map, List.length_range]
  by_cases h2 : i < n
  · rw [List.getElem?_range h2]
    by_cases hi : j = i
    · subst hi
      simp [h2]
    · have h3 : ¬ i = j := fun q => hi q.symm
      simp [hi, h3]
  · rw [List.getElem?_eq_none (l := List.range n) (by rw [List.length_range]; omega)]
    by_cases hi : j = i
    · subst hi
      simp [h2]
    · simp [hi]
theorem range_at {α : Type} {n j : Nat} (w : Nat → α) (h : j < n) : ((List.range n).map w)[j]? = some (w j) := by
  rw [List.getElem?_map, List.getElem?_range h]
  rfl
theorem range_getD {n j : Nat} (w : Nat → Int32) (h : j < n) : ((List.range n).map w).getD j 0 = w j := by
  rw [List.getD_eq_getElem?_getD, range_at w h]
  rfl
theorem fl_at {fs : List Nat} {b c : Nat} (hb : fs[b]? = some c) (w : Nat → Int32) : ((List.range fs.length).map (fun j => fV (fs.getD j 0) (w j)))[b]? = some (fV c (w b)) := by
  have h := (List.getElem?_eq_some_iff.mp hb).1
  rw [range_at _ h, List.getD_eq_getElem?_getD, hb]
  rfl
theorem fl_set {fs : List Nat} {b c : Nat} (hb : fs[b]? = some c) (w : Nat → Int32) (x : Int32) : ((List.range fs.length).map (fun j => fV (fs.getD j 0) (w j))).set b (fV c x) = (List.range fs.length).map (fun j => fV (fs.getD j 0) (if j = b then x else w j)) := by
  rw [range_set]
  apply List.map_congr_left
  intro j hj
  by_cases h : j = b
  · subst h
    rw [if_pos rfl, if_pos rfl, List.getD_eq_getElem?_getD, hb]
    rfl
  · rw [if_neg h, if_neg h]
theorem tF {ln : Nat → Nat} {N k : Nat} {t : TM} (ht : tmL[k]? = some t) : TmAt ln N k t := by
  have h : k < tmL.length := (List.getElem?_eq_some_iff.mp ht).1
  have h2 : k < 69 := h
  refine ⟨by omega, ?_⟩
  unfold tmF
  rw [if_pos h2, List.getD_eq_getElem?_getD, ht]
  rfl
theorem tLo {ln : Nat → Nat} {N i : Nat} (hi : i < N) : TmAt ln N (69 + 3 * i) (.inr (1, [102 + 3 * i, 103 + 3 * i])) := by
  refine ⟨by omega, ?_⟩
  unfold tmF
  rw [if_neg (by omega), if_pos (by omega), show 69 + 3 * i + 33 = 102 + 3 * i by omega, show 69 + 3 * i + 34 = 103 + 3 * i by omega]
theorem tLc {ln : Nat → Nat} {N i : Nat} (hi : i < N) : TmAt ln N (70 + 3 * i) (.inl (0, ln i)) := by
  refine ⟨by omega, ?_⟩
  unfold tmF
  rw [if_neg (by omega), if_neg (by omega), show (70 + 3 * i - 69) / 3 = i by omega]
theorem tLw {ln : Nat → Nat} {N i : Nat} (hi : i < N) : TmAt ln N (71 + 3 * i) (.inl (0, ln i)) := by
  refine ⟨by omega, ?_⟩
  unfold tmF
  rw [if_neg (by omega), if_neg (by omega), show (71 + 3 * i - 69) / 3 = i by omega]
theorem tmA {ln : Nat → Nat} {N k kd n : Nat} {w : Nat → Int32} (h : TmAt ln N k (.inl (kd, n))) : celT (tmF ln k) w = .inl (kd, (List.range n).map w) := by
  rw [h.2]
  rfl
theorem tmO {ln : Nat → Nat} {N k ci : Nat} {fs : List Nat} {w : Nat → Int32} (h : TmAt ln N k (.inr (ci, fs))) : celT (tmF ln k) w = .inr (ci, (List.range fs.length).map (fun j => fV (fs.getD j 0) (w j))) := by
  rw [h.2]
  rfl
theorem vinJ {n : Nat} {w : Nat → Int32} {j : Nat} (hj : j < n) (hn : n < 2 ^ 31) : vp_in (nI j) ((List.range n).map w).length := by
  rw [List.length_map, List.length_range]
  exact vp_in_nI hj hn
theorem clJ {n : Nat} {j : Nat} (hj : j < n) (hn : n < 2 ^ 31) : (nI j).toNatClampNeg = j := nI_clamp (by omega)
theorem c1_law (x : Int32) : c1V (lawV x) = true := by
  unfold lawV
  split <;> rfl
theorem fit_law {x : Int32} {q : String} : fitV (.object q) (lawV x) := by
  unfold lawV
  split <;> exact trivial
theorem gwr {xs : List Int32} {call : CT} {y : Nat} {Q : QT} {pc : Nat} {L : LoS} {v : Value} {rest : List Value} {h : AH} {mc ms : Nat} (g : gw xs call y Q pc L (v :: rest) h mc ms) : gw xs call y Q pc L ((some v).toList ++ rest) h mc ms := g
theorem gwr0 {xs : List Int32} {call : CT} {y : Nat} {Q : QT} {pc : Nat} {L : LoS} {rest : List Value} {h : AH} {mc ms : Nat} (g : gw xs call y Q pc L rest h mc ms) : gw xs call y Q pc L ((none : Option Value).toList ++ rest) h mc ms := g
theorem gwm {xs : List Int32} {call : CT} {y : Nat} {Q : QT} {pc : Nat} {L : LoS} {st : List Value} {m m2 : MW} {ln : Nat → Nat} {N mc ms : Nat} (e : m = m2) (g : gw xs call y Q pc L st (H m2 ln N) mc ms) : gw xs call y Q pc L st (H m ln N) mc ms := by
  rw [e]
  exact g
theorem wp_x {xs : List Int32} {d a mc ms n : Nat} {as : List Value} {h : AH} {Q : QT} {L : LoS} (hm : mMx a = n) (hl : (slV as).length ≤ n) (hL : entL n as = L) (g : gw xs (WP xs d) a Q 0 L [] h mc ms) : WP xs (d + 1) a mc ms as h Q := by
  subst hm
  exact wp_in hl hL g
theorem h_gfI {xs : List Int32} {d y : Nat} {Q : QT} {pc : Nat} {L : LoS} {st : List Value} {m : MW} {ln : Nat → Nat} {N mc ms : Nat} {nx kd a b : Nat} {v : Int32} {n k p : Nat} {fs : List Nat} {x : Int32} (hr : smI y pc = some (.getfield n, nx, kd, a, b, v)) (hp : 32 + k = p) (ht : TmAt ln N k (.inr (a, fs))) (hb : fs[b]? = some 0) (hv : m k b = x) (g : gw xs (WP xs d) y Q nx L (.int x :: st) (H (m) ln N) mc ms) : gw xs (WP xs d) y Q pc L (.ref p :: st) (H m ln N) mc ms := by
  subst hv
  exact g_gf hr ((smC_H hp ht.1).trans (congrArg some (tmO ht))) (fl_at hb _) g
theorem h_gfR {xs : List Int32} {d y : Nat} {Q : QT} {pc : Nat} {L : LoS} {st : List Value} {m : MW} {ln : Nat → Nat} {N mc ms : Nat} {nx kd a b : Nat} {v : Int32} {n k p c : Nat} {fs : List Nat} (hr : smI y pc = some (.getfield n, nx, kd, a, b, v)) (hp : 32 + k = p) (ht : TmAt ln N k (.inr (a, fs))) (hb : fs[b]? = some c) (hc : 3 ≤ c) (g : gw xs (WP xs d) y Q nx L (.ref c :: st) (H (m) ln N) mc ms) : gw xs (WP xs d) y Q pc L (.ref p :: st) (H m ln N) mc ms := g_gf hr ((smC_H hp ht.1).trans (congrArg some (tmO ht))) (by obtain ⟨c, rfl⟩ : ∃ z, c = z + 3 := ⟨c - 3, by omega⟩; exact fl_at hb _) g
theorem h_gfL {xs : List Int32} {d y : Nat} {Q : QT} {pc : Nat} {L : LoS} {st : List Value} {m : MW} {ln : Nat → Nat} {N mc ms : Nat} {nx kd a b : Nat} {v : Int32} {n k p : Nat} {fs : List Nat} {x : Int32} (hr : smI y pc = some (.getfield n, nx, kd, a, b, v)) (hp : 32 + k = p) (ht : TmAt ln N k (.inr (a, fs))) (hb : fs[b]? = some 1) (hv : m k b = x) (g : gw xs (WP xs d) y Q nx L (lawV x :: st) (H (m) ln N) mc ms) : gw xs (WP xs d) y Q pc L (.ref p :: st) (H m ln N) mc ms := by
  subst hv
  exact g_gf hr ((smC_H hp ht.1).trans (congrArg some (tmO ht))) (fl_at hb _) g
theorem h_gfN {xs : List Int32} {d y : Nat} {Q : QT} {pc : Nat} {L : LoS} {st : List Value} {m : MW} {ln : Nat → Nat} {N mc ms : Nat} {nx kd a b : Nat} {v : Int32} {n k p : Nat} {fs : List Nat} (hr : smI y pc = some (.getfield n, nx, kd, a, b, v)) (hp : 32 + k = p) (ht : TmAt ln N k (.inr (a, fs))) (hb : fs[b]? = some 2) (g : gw xs (WP xs d) y Q nx L ((if m k b = 0 then .ref 3 else .ref 4) :: st) (H (m) ln N) mc ms) : gw xs (WP xs d) y Q pc L (.ref p :: st) (H m ln N) mc ms := g_gf hr ((smC_H hp ht.1).trans (congrArg some (tmO ht))) (fl_at hb _) g
theorem h_pfI {xs : List Int32} {d y : Nat} {Q : QT} {pc : Nat} {L : LoS} {st : List Value} {m : MW} {ln : Nat → Nat} {N mc ms : Nat} {nx kd a b : Nat} {v : Int32} {n k p : Nat} {fs : List Nat} {x : Int32} (hr : smI y pc = some (.putfield n, nx, kd, a, b, v)) (hp : 32 + k = p) (ht : TmAt ln N k (.inr (a, fs))) (hb : fs[b]? = some 0) (hf : fitV (tyT a b) (.int x)) (g : gw xs (WP xs d) y Q nx L (st) (H (upm m k b x) ln N) mc ms) : gw xs (WP xs d) y Q pc L (.int x :: .ref p :: st) (H m ln N) mc ms := by
  refine g_pf (fs2 := (List.range fs.length).map (fun j => fV (fs.getD j 0) (if j = b then x else m k j))) (h2 := H (upm m k b x) ln N) (i := k) hr rfl (by omega) ((smC_H hp ht.1).trans (congrArg some (tmO ht))) (by rw [List.length_map, List.length_range]; exact (List.getElem?_eq_some_iff.mp hb).1) hf (fl_set hb _ x) (by omega) ?_ g
  rw [← upm_R, ← H_set ht.1, tmO ht]
theorem h_pfL {xs : List Int32} {d y : Nat} {Q : QT} {pc : Nat} {L : LoS} {st : List Value} {m : MW} {ln : Nat → Nat} {N mc ms : Nat} {nx kd a b : Nat} {v : Int32} {n k p : Nat} {fs : List Nat} {x : Int32} {q : String} (hr : smI y pc = some (.putfield n, nx, kd, a, b, v)) (hp : 32 + k = p) (ht : TmAt ln N k (.inr (a, fs))) (hb : fs[b]? = some 1) (hf : tyT a b = .object q) (g : gw xs (WP xs d) y Q nx L (st) (H (upm m k b x) ln N) mc ms) : gw xs (WP xs d) y Q pc L (lawV x :: .ref p :: st) (H m ln N) mc ms := by
  refine g_pf (fs2 := (List.range fs.length).map (fun j => fV (fs.getD j 0) (if j = b then x else m k j))) (h2 := H (upm m k b x) ln N) (i := k) hr (c1_law x) (by omega) ((smC_H hp ht.1).trans (congrArg some (tmO ht))) (by rw [List.length_map, List.length_range]; exact (List.getElem?_eq_some_iff.mp hb).1) (by rw [hf]; exact fit_law) (fl_set hb _ x) (by omega) ?_ g
  rw [← upm_R, ← H_set ht.1, tmO ht]
theorem h_pfN {xs : List Int32} {d y : Nat} {Q : QT} {pc : Nat} {L : LoS} {st : List Value} {m : MW} {ln : Nat → Nat} {N mc ms : Nat} {nx kd a b : Nat} {v : Int32} {n k p z : Nat} {fs : List Nat} {x : Int32} (hr : smI y pc = some (.putfield n, nx, kd, a, b, v)) (hp : 32 + k = p) (ht : TmAt ln N k (.inr (a, fs))) (hb : fs[b]? = some 2) (hx : fV 2 x = .ref z) (hf : fitV (tyT a b) (.ref z)) (g : gw xs (WP xs d) y Q nx L (st) (H (upm m k b x) ln N) mc ms) : gw xs (WP xs d) y Q pc L (.ref z :: .ref p :: st) (H m ln N) mc ms := by
  refine g_pf (fs2 := (List.range fs.length).map (fun j => fV (fs.getD j 0) (if j = b then x else m k j))) (h2 := H (upm m k b x) ln N) (i := k) hr rfl (by omega) ((smC_H hp ht.1).trans (congrArg some (tmO ht))) (by rw [List.length_map, List.length_range]; exact (List.getElem?_eq_some_iff.mp hb).1) hf (by rw [← hx]; exact fl_set hb _ x) (by omega) ?_ g
  rw [← upm_R, ← H_set ht.1, tmO ht]
theorem h_ial {xs : List Int32} {d y : Nat} {Q : QT} {pc : Nat} {L : LoS} {st : List Value} {m : MW} {ln : Nat → Nat} {N mc ms : Nat} {nx kd a b : Nat} {v : Int32} {k p n j : Nat} {i x : Int32} (hr : smI y pc = some (.iaload, nx, kd, a, b, v)) (hp : 32 + k = p) (ht : TmAt ln N k (.inl (0, n))) (hx : i = nI j) (hj : j < n) (hn : n < 2 ^ 31) (hv : m k j = x) (g : gw xs (WP xs d) y Q nx L (.int x :: st) (H (m) ln N) mc ms) : gw xs (WP xs d) y Q pc L (.int i :: .ref p :: st) (H m ln N) mc ms := by
  subst hx
  subst hv
  exact g_iald hr ((smC_H hp ht.1).trans (congrArg some (tmA ht))) (vinJ hj hn) (by rw [clJ hj hn]; exact range_getD _ hj) g
theorem h_bal {xs : List Int32} {d y : Nat} {Q : QT} {pc : Nat} {L : LoS} {st : List Value} {m : MW} {ln : Nat → Nat} {N mc ms : Nat} {nx kd a b : Nat} {v : Int32} {k p n j : Nat} {i x : Int32} (hr : smI y pc = some (.baload, nx, kd, a, b, v)) (hp : 32 + k = p) (ht : TmAt ln N k (.inl (1, n))) (hx : i = nI j) (hj : j < n) (hn : n < 2 ^ 31) (hv : m k j = x) (g : gw xs (WP xs d) y Q nx L (.int x :: st) (H (m) ln N) mc ms) : gw xs (WP xs d) y Q pc L (.int i :: .ref p :: st) (H m ln N) mc ms := by
  subst hx
  subst hv
  exact g_bald hr ((smC_H hp ht.1).trans (congrArg some (tmA ht))) (Or.inl ⟨by omega, rfl⟩) (vinJ hj hn) (by rw [clJ hj hn]; exact range_getD _ hj) g
theorem h_ias {xs : List Int32} {d y : Nat} {Q : QT} {pc : Nat} {L : LoS} {st : List Value} {m : MW} {ln : Nat → Nat} {N mc ms : Nat} {nx kd a b : Nat} {v : Int32} {k p n j : Nat} {i x : Int32} (hr : smI y pc = some (.iastore, nx, kd, a, b, v)) (hp : 32 + k = p) (ht : TmAt ln N k (.inl (0, n))) (hx : i = nI j) (hj : j < n) (hn : n < 2 ^ 31) (g : gw xs (WP xs d) y Q nx L (st) (H (upm m k j x) ln N) mc ms) : gw xs (WP xs d) y Q pc L (.int x :: .int i :: .ref p :: st) (H m ln N) mc ms := by
  subst hx
  refine g_iast (f2 := (List.range n).map (fun q => if q = j then x else m k q)) (h2 := H (upm m k j x) ln N) (j := k) hr (by omega) ((smC_H hp ht.1).trans (congrArg some (tmA ht))) (vinJ hj hn) (by rw [clJ hj hn]; exact range_set n j _ x) (by omega) ?_ g
  rw [← upm_R, ← H_set ht.1, tmA ht]
theorem h_bas {xs : List Int32} {d y : Nat} {Q : QT} {pc : Nat} {L : LoS} {st : List Value} {m : MW} {ln : Nat → Nat} {N mc ms : Nat} {nx kd a b : Nat} {v : Int32} {k p n j : Nat} {i x : Int32} (hr : smI y pc = some (.bastore, nx, kd, a, b, v)) (hp : 32 + k = p) (ht : TmAt ln N k (.inl (1, n))) (hx : i = nI j) (hj : j < n) (hn : n < 2 ^ 31) (h01 : x = 0 ∨ x = 1) (g : gw xs (WP xs d) y Q nx L (st) (H (upm m k j x) ln N) mc ms) : gw xs (WP xs d) y Q pc L (.int x :: .int i :: .ref p :: st) (H m ln N) mc ms := by
  subst hx
  refine g_bast (f2 := (List.range n).map (fun q => if q = j then x else m k q)) (h2 := H (upm m k j x) ln N) (j := k) hr (by omega) h01 ((smC_H hp ht.1).trans (congrArg some (tmA ht))) (vinJ hj hn) (by rw [clJ hj hn]; exact range_set n j _ x) (by omega) ?_ g
  rw [← upm_R, ← H_set ht.1, tmA ht]
theorem h_alen {xs : List Int32} {d y : Nat} {Q : QT} {pc : Nat} {L : LoS} {st : List Value} {m : MW} {ln : Nat → Nat} {N mc ms : Nat} {nx kd a b : Nat} {v : Int32} {k p kk n : Nat} (hr : smI y pc = some (.arraylength, nx, kd, a, b, v)) (hp : 32 + k = p) (ht : TmAt ln N k (.inl (kk, n))) (hk : kk = 0 ∨ kk = 1) (g : gw xs (WP xs d) y Q nx L (.int (nI n) :: st) (H (m) ln N) mc ms) : gw xs (WP xs d) y Q pc L (.ref p :: st) (H m ln N) mc ms := g_alen hr ((smC_H hp ht.1).trans (congrArg some (tmA ht))) (hk.imp id Or.inl) (by rw [List.length_map, List.length_range]) g
theorem h_aald {xs : List Int32} {d y : Nat} {Q : QT} {pc : Nat} {L : LoS} {st : List Value} {m : MW} {ln : Nat → Nat} {N mc ms : Nat} {nx kd a b : Nat} {v : Int32} {k p c j : Nat} {i : Int32} {fs : List Nat} (hr : smI y pc = some (.aaload, nx, kd, a, b, v)) (hp : 32 + k = p) (ht : TmAt ln N k (.inr (50, fs))) (hx : i = nI j) (hb : fs[j]? = some c) (hc : 3 ≤ c) (hn : fs.length < 2 ^ 31) (g : gw xs (WP xs d) y Q nx L (.ref c :: st) (H (m) ln N) mc ms) : gw xs (WP xs d) y Q pc L (.int i :: .ref p :: st) (H m ln N) mc ms := by
  subst hx
  have hj : j < fs.length := (List.getElem?_eq_some_iff.mp hb).1
  refine g_aald hr (by omega) ((smC_H hp ht.1).trans (congrArg some (tmO ht))) (by rw [List.length_map, List.length_range]; exact vp_in_nI hj hn) ?_ g
  rw [clJ hj hn]
  obtain ⟨c, rfl⟩ : ∃ z, c = z + 3 := ⟨c - 3, by omega⟩
  exact fl_at hb _
def cpy (m : MW) (k1 k2 sp dp n : Nat) : MW := fun k j => if k = k2 ∧ dp ≤ j ∧ j < dp + n then m k1 (sp + (j - dp)) else m k j
theorem cpL_H {n1 n2 sp dp n : Nat} (f g : Nat → Int32) (h1 : sp + n ≤ n1) (h2 : dp + n ≤ n2) : cpL ((List.range n1).map f) ((List.range n2).map g) sp dp n = (List.range n2).map (fun j => if dp ≤ j ∧ j < dp + n then f (sp + (j - dp)) else g j) := by
  unfold cpL
  rw [List.length_map, List.length_range]
  apply List.map_congr_left
  intro j hj
  have hj2 : j < n2 := List.mem_range.mp hj
  unfold va_cpy
  by_cases h : dp ≤ j ∧ j < dp + n
  · simp only [h, and_self, if_true]
    exact range_getD _ (by omega)
  · simp only [h, if_false]
    exact range_getD _ hj2
theorem h_acp {xs : List Int32} {d y : Nat} {Q : QT} {pc : Nat} {L : LoS} {st : List Value} {m : MW} {ln : Nat → Nat} {N mc ms : Nat} {nx kd a b : Nat} {v : Int32} {n k1 k2 p q kk n1 n2 sp dp c : Nat} (hr : smI y pc = some (.invokestatic n, nx, 4, a, b, v)) (hp : 32 + k1 = p) (hq : 32 + k2 = q) (h1 : TmAt ln N k1 (.inl (kk, n1))) (h2 : TmAt ln N k2 (.inl (kk, n2))) (hkk : kk = 0 ∨ kk = 1) (hn1 : n1 < 2 ^ 31) (hn2 : n2 < 2 ^ 31) (hs : sp + c ≤ n1) (hd : dp + c ≤ n2) (hb : kk = 1 → ∀ j, j < n1 → m k1 j = 0 ∨ m k1 j = 1) (hcat : catS st ≤ 8) (g : gw xs (WP xs d) y Q nx L (st) (H (cpy m k1 k2 sp dp c) ln N) mc ms) : gw xs (WP xs d) y Q pc L (.int (nI c) :: .int (nI dp) :: .ref q :: .int (nI sp) :: .ref p :: st) (H m ln N) mc ms := by
  refine gs hr ?_
  have e1 : smC xs (H m ln N) p = some (.inl (kk, (List.range n1).map (m k1))) := (smC_H hp h1.1).trans (congrArg some (tmA h1))
  have e2 : smC xs (H m ln N) q = some (.inl (kk, (List.range n2).map (m k2))) := (smC_H hq h2.1).trans (congrArg some (tmA h2))
  have c1 : (nI sp).toNatClampNeg = sp := nI_clamp (by omega)
  have c2 : (nI dp).toNatClampNeg = dp := nI_clamp (by omega)
  have c3 : (nI c).toNatClampNeg = c := nI_clamp (by omega)
  show 32 ≤ p ∧ 32 ≤ q ∧ catS st ≤ 8 ∧ cA xs (H m ln N) p _
  refine ⟨by omega, by omega, hcat, cA_i e1 (cA_i e2 ?_)⟩
  refine ⟨rfl, hkk, nI_pos (by omega), nI_pos (by omega), nI_pos (by omega), ?_, ?_, ?_, ?_⟩
  · rw [c1, c3, List.length_map, List.length_range]
    exact hs
  · rw [c2, c3, List.length_map, List.length_range]
    exact hd
  · intro hk x hx
    obtain ⟨j, hj, rfl⟩ := List.mem_map.mp hx
    exact hb hk j (List.mem_range.mp hj)
  · rw [c1, c2, c3, cpL_H _ _ hs hd]
    have e3 : (H m ln N).set (q - 32) (.inl (kk, (List.range n2).map (fun j => if dp ≤ j ∧ j < dp + c then m k1 (sp + (j - dp)) else m k2 j))) = H (cpy m k1 k2 sp dp c) ln N := by
      have e4 : q - 32 = k2 := by omega
      have e5 : cpy m k1 k2 sp dp c = upmR m k2 (fun j => if dp ≤ j ∧ j < dp + c then m k1 (sp + (j - dp)) else m k2 j) := by
        funext k j
        unfold cpy upmR
        by_cases h : k = k2
        · subst h
          simp
        · simp [h]
      rw [e4, e5, ← H_set h2.1, tmA h2]
    rw [e3]
    exact g
theorem h_if_eq {xs : List Int32} {d y : Nat} {Q : QT} {pc : Nat} {L : LoS} {st : List Value} {h : AH} {mc ms : Nat} {nx kd a b : Nat} {v : Int32} {w : Int} {x : Int32} {xi zi : Int} (hr : smI y pc = some (.ifCond .eq w, nx, kd, a, b, v)) (hx : x.toInt = xi) (hz : (0 : Int32).toInt = zi) (gT : xi = zi → gw xs (WP xs d) y Q a L st h mc ms) (gF : ¬ xi = zi → gw xs (WP xs d) y Q nx L st h mc ms) : gw xs (WP xs d) y Q pc L (.int x :: st) h mc ms := g_if_eq hr (fun c => gT ((eq_k hx hz).mp c)) (fun c => gF (fun q => c ((eq_k hx hz).mpr q)))
theorem h_if_eqT {xs : List Int32} {d y : Nat} {Q : QT} {pc : Nat} {L : LoS} {st : List Value} {h : AH} {mc ms : Nat} {nx kd a b : Nat} {v : Int32} {w : Int} {x : Int32} {xi zi : Int} (hr : smI y pc = some (.ifCond .eq w, nx, kd, a, b, v)) (hx : x.toInt = xi) (hz : (0 : Int32).toInt = zi) (hc : xi = zi) (g : gw xs (WP xs d) y Q a L st h mc ms) : gw xs (WP xs d) y Q pc L (.int x :: st) h mc ms := g_if_eqT hr ((eq_k hx hz).mpr hc) g
theorem h_if_eqF {xs : List Int32} {d y : Nat} {Q : QT} {pc : Nat} {L : LoS} {st : List Value} {h : AH} {mc ms : Nat} {nx kd a b : Nat} {v : Int32} {w : Int} {x : Int32} {xi zi : Int} (hr : smI y pc = some (.ifCond .eq w, nx, kd, a, b, v)) (hx : x.toInt = xi) (hz : (0 : Int32).toInt = zi) (hc : ¬ xi = zi) (g : gw xs (WP xs d) y Q nx L st h mc ms) : gw xs (WP xs d) y Q pc L (.int x :: st) h mc ms := g_if_eqF hr (fun q => hc ((eq_k hx hz).mp q)) g
theorem h_if_ne {xs : List Int32} {d y : Nat} {Q : QT} {pc : Nat} {L : LoS} {st : List Value} {h : AH} {mc ms : Nat} {nx kd a b : Nat} {v : Int32} {w : Int} {x : Int32} {xi zi : Int} (hr : smI y pc = some (.ifCond .ne w, nx, kd, a, b, v)) (hx : x.toInt = xi) (hz : (0 : Int32).toInt = zi) (gT : xi = zi → gw xs (WP xs d) y Q nx L st h mc ms) (gF : ¬ xi = zi → gw xs (WP xs d) y Q a L st h mc ms) : gw xs (WP xs d) y Q pc L (.int x :: st) h mc ms := g_if_ne hr (fun c => gT ((eq_k hx hz).mp c)) (fun c => gF (fun q => c ((eq_k hx hz).mpr q)))
theorem h_if_neT {xs : List Int32} {d y : Nat} {Q : QT} {pc : Nat} {L : LoS} {st : List Value} {h : AH} {mc ms : Nat} {nx kd a b : Nat} {v : Int32} {w : Int} {x : Int32} {xi zi : Int} (hr : smI y pc = some (.ifCond .ne w, nx, kd, a, b, v)) (hx : x.toInt = xi) (hz : (0 : Int32).toInt = zi) (hc : xi = zi) (g : gw xs (WP xs d) y Q nx L st h mc ms) : gw xs (WP xs d) y Q pc L (.int x :: st) h mc ms := g_if_neT hr ((eq_k hx hz).mpr hc) g
theorem h_if_neF {xs : List Int32} {d y : Nat} {Q : QT} {pc : Nat} {L : LoS} {st : List Value} {h : AH} {mc ms : Nat} {nx kd a b : Nat} {v : Int32} {w : Int} {x : Int32} {xi zi : Int} (hr : smI y pc = some (.ifCond .ne w, nx, kd, a, b, v)) (hx : x.toInt = xi) (hz : (0 : Int32).toInt = zi) (hc : ¬ xi = zi) (g : gw xs (WP xs d) y Q a L st h mc ms) : gw xs (WP xs d) y Q pc L (.int x :: st) h mc ms := g_if_neF hr (fun q => hc ((eq_k hx hz).mp q)) g
theorem h_if_lt {xs : List Int32} {d y : Nat} {Q : QT} {pc : Nat} {L : LoS} {st : List Value} {h : AH} {mc ms : Nat} {nx kd a b : Nat} {v : Int32} {w : Int} {x : Int32} {xi zi : Int} (hr : smI y pc = some (.ifCond .lt w, nx, kd, a, b, v)) (hx : x.toInt = xi) (hz : (0 : Int32).toInt = zi) (gT : xi < zi → gw xs (WP xs d) y Q a L st h mc ms) (gF : ¬ xi < zi → gw xs (WP xs d) y Q nx L st h mc ms) : gw xs (WP xs d) y Q pc L (.int x :: st) h mc ms := g_if_lt hr (fun c => gT ((lt_k hx hz).mp c)) (fun c => gF (fun q => c ((lt_k hx hz).mpr q)))
theorem h_if_ltT {xs : List Int32} {d y : Nat} {Q : QT} {pc : Nat} {L : LoS} {st : List Value} {h : AH} {mc ms : Nat} {nx kd a b : Nat} {v : Int32} {w : Int} {x : Int32} {xi zi : Int} (hr : smI y pc = some (.ifCond .lt w, nx, kd, a, b, v)) (hx : x.toInt = xi) (hz : (0 : Int32).toInt = zi) (hc : xi < zi) (g : gw xs (WP xs d) y Q a L st h mc ms) : gw xs (WP xs d) y Q pc L (.int x :: st) h mc ms := g_if_ltT hr ((lt_k hx hz).mpr hc) g
theorem h_if_ltF {xs : List Int32} {d y : Nat} {Q : QT} {pc : Nat} {L : LoS} {st : List Value} {h : AH} {mc ms : Nat} {nx kd a b : Nat} {v : Int32} {w : Int} {x : Int32} {xi zi : Int} (hr : smI y pc = some (.ifCond .lt w, nx, kd, a, b, v)) (hx : x.toInt = xi) (hz : (0 : Int32).toInt = zi) (hc : ¬ xi < zi) (g : gw xs (WP xs d) y Q nx L st h mc ms) : gw xs (WP xs d) y Q pc L (.int x :: st) h mc ms := g_if_ltF hr (fun q => hc ((lt_k hx hz).mp q)) g
theorem h_if_ge {xs : List Int32} {d y : Nat} {Q : QT} {pc : Nat} {L : LoS} {st : List Value} {h : AH} {mc ms : Nat} {nx kd a b : Nat} {v : Int32} {w : Int} {x : Int32} {xi zi : Int} (hr : smI y pc = some (.ifCond .ge w, nx, kd, a, b, v)) (hx : x.toInt = xi) (hz : (0 : Int32).toInt = zi) (gT : zi ≤ xi → gw xs (WP xs d) y Q a L st h mc ms) (gF : ¬ zi ≤ xi → gw xs (WP xs d) y Q nx L st h mc ms) : gw xs (WP xs d) y Q pc L (.int x :: st) h mc ms := g_if_ge hr (fun c => gT ((le_k hz hx).mp c)) (fun c => gF (fun q => c ((le_k hz hx).mpr q)))
theorem h_if_geT {xs : List Int32} {d y : Nat} {Q : QT} {pc : Nat} {L : LoS} {st : List Value} {h : AH} {mc ms : Nat} {nx kd a b : Nat} {v : Int32} {w : Int} {x : Int32} {xi zi : Int} (hr : smI y pc = some (.ifCond .ge w, nx, kd, a, b, v)) (hx : x.toInt = xi) (hz : (0 : Int32).toInt = zi) (hc : zi ≤ xi) (g : gw xs (WP xs d) y Q a L st h mc ms) : gw xs (WP xs d) y Q pc L (.int x :: st) h mc ms := g_if_geT hr ((le_k hz hx).mpr hc) g
theorem h_if_geF {xs : List Int32} {d y : Nat} {Q : QT} {pc : Nat} {L : LoS} {st : List Value} {h : AH} {mc ms : Nat} {nx kd a b : Nat} {v : Int32} {w : Int} {x : Int32} {xi zi : Int} (hr : smI y pc = some (.ifCond .ge w, nx, kd, a, b, v)) (hx : x.toInt = xi) (hz : (0 : Int32).toInt = zi) (hc : ¬ zi ≤ xi) (g : gw xs (WP xs d) y Q nx L st h mc ms) : gw xs (WP xs d) y Q pc L (.int x :: st) h mc ms := g_if_geF hr (fun q => hc ((le_k hz hx).mp q)) g
theorem h_if_gt {xs : List Int32} {d y : Nat} {Q : QT} {pc : Nat} {L : LoS} {st : List Value} {h : AH} {mc ms : Nat} {nx kd a b : Nat} {v : Int32} {w : Int} {x : Int32} {xi zi : Int} (hr : smI y pc = some (.ifCond .gt w, nx, kd, a, b, v)) (hx : x.toInt = xi) (hz : (0 : Int32).toInt = zi) (gT : zi < xi → gw xs (WP xs d) y Q a L st h mc ms) (gF : ¬ zi < xi → gw xs (WP xs d) y Q nx L st h mc ms) : gw xs (WP xs d) y Q pc L (.int x :: st) h mc ms := g_if_gt hr (fun c => gT ((lt_k hz hx).mp c)) (fun c => gF (fun q => c ((lt_k hz hx).mpr q)))
theorem h_if_gtT {xs : List Int32} {d y : Nat} {Q : QT} {pc : Nat} {L : LoS} {st : List Value} {h : AH} {mc ms : Nat} {nx kd a b : Nat} {v : Int32} {w : Int} {x : Int32} {xi zi : Int} (hr : smI y pc = some (.ifCond .gt w, nx, kd, a, b, v)) (hx : x.toInt = xi) (hz : (0 : Int32).toInt = zi) (hc : zi < xi) (g : gw xs (WP xs d) y Q a L st h mc ms) : gw xs (WP xs d) y Q pc L (.int x :: st) h mc ms := g_if_gtT hr ((lt_k hz hx).mpr hc) g
theorem h_if_gtF {xs : List Int32} {d y : Nat} {Q : QT} {pc : Nat} {L : LoS} {st : List Value} {h : AH} {mc ms : Nat} {nx kd a b : Nat} {v : Int32} {w : Int} {x : Int32} {xi zi : Int} (hr : smI y pc = some (.ifCond .gt w, nx, kd, a, b, v)) (hx : x.toInt = xi) (hz : (0 : Int32).toInt = zi) (hc : ¬ zi < xi) (g : gw xs (WP xs d) y Q nx L st h mc ms) : gw xs (WP xs d) y Q pc L (.int x :: st) h mc ms := g_if_gtF hr (fun q => hc ((lt_k hz hx).mp q)) g
theorem h_if_le {xs : List Int32} {d y : Nat} {Q : QT} {pc : Nat} {L : LoS} {st : List Value} {h : AH} {mc ms : Nat} {nx kd a b : Nat} {v : Int32} {w : Int} {x : Int32} {xi zi : Int} (hr : smI y pc = some (.ifCond .le w, nx, kd, a, b, v)) (hx : x.toInt = xi) (hz : (0 : Int32).toInt = zi) (gT : xi ≤ zi → gw xs (WP xs d) y Q a L st h mc ms) (gF : ¬ xi ≤ zi → gw xs (WP xs d) y Q nx L st h mc ms) : gw xs (WP xs d) y Q pc L (.int x :: st) h mc ms := g_if_le hr (fun c => gT ((le_k hx hz).mp c)) (fun c => gF (fun q => c ((le_k hx hz).mpr q)))
theorem h_if_leT {xs : List Int32} {d y : Nat} {Q : QT} {pc : Nat} {L : LoS} {st : List Value} {h : AH} {mc ms : Nat} {nx kd a b : Nat} {v : Int32} {w : Int} {x : Int32} {xi zi : Int} (hr : smI y pc = some (.ifCond .le w, nx, kd, a, b, v)) (hx : x.toInt = xi) (hz : (0 : Int32).toInt = zi) (hc : xi ≤ zi) (g : gw xs (WP xs d) y Q a L st h mc ms) : gw xs (WP xs d) y Q pc L (.int x :: st) h mc ms := g_if_leT hr ((le_k hx hz).mpr hc) g
theorem h_if_leF {xs : List Int32} {d y : Nat} {Q : QT} {pc : Nat} {L : LoS} {st : List Value} {h : AH} {mc ms : Nat} {nx kd a b : Nat} {v : Int32} {w : Int} {x : Int32} {xi zi : Int} (hr : smI y pc = some (.ifCond .le w, nx, kd, a, b, v)) (hx : x.toInt = xi) (hz : (0 : Int32).toInt = zi) (hc : ¬ xi ≤ zi) (g : gw xs (WP xs d) y Q nx L st h mc ms) : gw xs (WP xs d) y Q pc L (.int x :: st) h mc ms := g_if_leF hr (fun q => hc ((le_k hx hz).mp q)) g
theorem h_ic_eq {xs : List Int32} {d y : Nat} {Q : QT} {pc : Nat} {L : LoS} {st : List Value} {h : AH} {mc ms : Nat} {nx kd a b : Nat} {v : Int32} {w : Int} {x : Int32} {xi zi : Int} {z : Int32} (hr : smI y pc = some (.if_icmp .eq w, nx, kd, a, b, v)) (hx : x.toInt = xi) (hz : z.toInt = zi) (gT : xi = zi → gw xs (WP xs d) y Q a L st h mc ms) (gF : ¬ xi = zi → gw xs (WP xs d) y Q nx L st h mc ms) : gw xs (WP xs d) y Q pc L (.int z :: .int x :: st) h mc ms := g_ic_eq hr (fun c => gT ((eq_k hx hz).mp c)) (fun c => gF (fun q => c ((eq_k hx hz).mpr q)))
theorem h_ic_eqT {xs : List Int32} {d y : Nat} {Q : QT} {pc : Nat} {L : LoS} {st : List Value} {h : AH} {mc ms : Nat} {nx kd a b : Nat} {v : Int32} {w : Int} {x : Int32} {xi zi : Int} {z : Int32} (hr : smI y pc = some (.if_icmp .eq w, nx, kd, a, b, v)) (hx : x.toInt = xi) (hz : z.toInt = zi) (hc : xi = zi) (g : gw xs (WP xs d) y Q a L st h mc ms) : gw xs (WP xs d) y Q pc L (.int z :: .int x :: st) h mc ms := g_ic_eqT hr ((eq_k hx hz).mpr hc) g
theorem h_ic_eqF {xs : List Int32} {d y : Nat} {Q : QT} {pc : Nat} {L : LoS} {st : List Value} {h : AH} {mc ms : Nat} {nx kd a b : Nat} {v : Int32} {w : Int} {x : Int32} {xi zi : Int} {z : Int32} (hr : smI y pc = some (.if_icmp .eq w, nx, kd, a, b, v)) (hx : x.toInt = xi) (hz : z.toInt = zi) (hc : ¬ xi = zi) (g : gw xs (WP xs d) y Q nx L st h mc ms) : gw xs (WP xs d) y Q pc L (.int z :: .int x :: st) h mc ms := g_ic_eqF hr (fun q => hc ((eq_k hx hz).mp q)) g
theorem h_ic_ne {xs : List Int32} {d y : Nat} {Q : QT} {pc : Nat} {L : LoS} {st : List Value} {h : AH} {mc ms : Nat} {nx kd a b : Nat} {v : Int32} {w : Int} {x : Int32} {xi zi : Int} {z : Int32} (hr : smI y pc = some (.if_icmp .ne w, nx, kd, a, b, v)) (hx : x.toInt = xi) (hz : z.toInt = zi) (gT : xi = zi → gw xs (WP xs d) y Q nx L st h mc ms) (gF : ¬ xi = zi → gw xs (WP xs d) y Q a L st h mc ms) : gw xs (WP xs d) y Q pc L (.int z :: .int x :: st) h mc ms := g_ic_ne hr (fun c => gT ((eq_k hx hz).mp c)) (fun c => gF (fun q => c ((eq_k hx hz).mpr q)))
theorem h_ic_neT {xs : List Int32} {d y : Nat} {Q : QT} {pc : Nat} {L : LoS} {st : List Value} {h : AH} {mc ms : Nat} {nx kd a b : Nat} {v : Int32} {w : Int} {x : Int32} {xi zi : Int} {z : Int32} (hr : smI y pc = some (.if_icmp .ne w, nx, kd, a, b, v)) (hx : x.toInt = xi) (hz : z.toInt = zi) (hc : xi = zi) (g : gw xs (WP xs d) y Q nx L st h mc ms) : gw xs (WP xs d) y Q pc L (.int z :: .int x :: st) h mc ms := g_ic_neT hr ((eq_k hx hz).mpr hc) g
theorem h_ic_neF {xs : List Int32} {d y : Nat} {Q : QT} {pc : Nat} {L : LoS} {st : List Value} {h : AH} {mc ms : Nat} {nx kd a b : Nat} {v : Int32} {w : Int} {x : Int32} {xi zi : Int} {z : Int32} (hr : smI y pc = some (.if_icmp .ne w, nx, kd, a, b, v)) (hx : x.toInt = xi) (hz : z.toInt = zi) (hc : ¬ xi = zi) (g : gw xs (WP xs d) y Q a L st h mc ms) : gw xs (WP xs d) y Q pc L (.int z :: .int x :: st) h mc ms := g_ic_neF hr (fun q => hc ((eq_k hx hz).mp q)) g
theorem h_ic_lt {xs : List Int32} {d y : Nat} {Q : QT} {pc : Nat} {L : LoS} {st : List Value} {h : AH} {mc ms : Nat} {nx kd a b : Nat} {v : Int32} {w : Int} {x : Int32} {xi zi : Int} {z : Int32} (hr : smI y pc = some (.if_icmp .lt w, nx, kd, a, b, v)) (hx : x.toInt = xi) (hz : z.toInt = zi) (gT : xi < zi → gw xs (WP xs d) y Q a L st h mc ms) (gF : ¬ xi < zi → gw xs (WP xs d) y Q nx L st h mc ms) : gw xs (WP xs d) y Q pc L (.int z :: .int x :: st) h mc ms := g_ic_lt hr (fun c => gT ((lt_k hx hz).mp c)) (fun c => gF (fun q => c ((lt_k hx hz).mpr q)))
theorem h_ic_ltT {xs : List Int32} {d y : Nat} {Q : QT} {pc : Nat} {L : LoS} {st : List Value} {h : AH} {mc ms : Nat} {nx kd a b : Nat} {v : Int32} {w : Int} {x : Int32} {xi zi : Int} {z : Int32} (hr : smI y pc = some (.if_icmp .lt w, nx, kd, a, b, v)) (hx : x.toInt = xi) (hz : z.toInt = zi) (hc : xi < zi) (g : gw xs (WP xs d) y Q a L st h mc ms) : gw xs (WP xs d) y Q pc L (.int z :: .int x :: st) h mc ms := g_ic_ltT hr ((lt_k hx hz).mpr hc) g
theorem h_ic_ltF {xs : List Int32} {d y : Nat} {Q : QT} {pc : Nat} {L : LoS} {st : List Value} {h : AH} {mc ms : Nat} {nx kd a b : Nat} {v : Int32} {w : Int} {x : Int32} {xi zi : Int} {z : Int32} (hr : smI y pc = some (.if_icmp .lt w, nx, kd, a, b, v)) (hx : x.toInt = xi) (hz : z.toInt = zi) (hc : ¬ xi < zi) (g : gw xs (WP xs d) y Q nx L st h mc ms) : gw xs (WP xs d) y Q pc L (.int z :: .int x :: st) h mc ms := g_ic_ltF hr (fun q => hc ((lt_k hx hz).mp q)) g
theorem h_ic_ge {xs : List Int32} {d y : Nat} {Q : QT} {pc : Nat} {L : LoS} {st : List Value} {h : AH} {mc ms : Nat} {nx kd a b : Nat} {v : Int32} {w : Int} {x : Int32} {xi zi : Int} {z : Int32} (hr : smI y pc = some (.if_icmp .ge w, nx, kd, a, b, v)) (hx : x.toInt = xi) (hz : z.toInt = zi) (gT : zi ≤ xi → gw xs (WP xs d) y Q a L st h mc ms) (gF : ¬ zi ≤ xi → gw xs (WP xs d) y Q nx L st h mc ms) : gw xs (WP xs d) y Q pc L (.int z :: .int x :: st) h mc ms := g_ic_ge hr (fun c => gT ((le_k hz hx).mp c)) (fun c => gF (fun q => c ((le_k hz hx).mpr q)))
theorem h_ic_geT {xs : List Int32} {d y : Nat} {Q : QT} {pc : Nat} {L : LoS} {st : List Value} {h : AH} {mc ms : Nat} {nx kd a b : Nat} {v : Int32} {w : Int} {x : Int32} {xi zi : Int} {z : Int32} (hr : smI y pc = some (.if_icmp .ge w, nx, kd, a, b, v)) (hx : x.toInt = xi) (hz : z.toInt = zi) (hc : zi ≤ xi) (g : gw xs (WP xs d) y Q a L st h mc ms) : gw xs (WP xs d) y Q pc L (.int z :: .int x :: st) h mc ms := g_ic_geT hr ((le_k hz hx).mpr hc) g
theorem h_ic_geF {xs : List Int32} {d y : Nat} {Q : QT} {pc : Nat} {L : LoS} {st : List Value} {h : AH} {mc ms : Nat} {nx kd a b : Nat} {v : Int32} {w : Int} {x : Int32} {xi zi : Int} {z : Int32} (hr : smI y pc = some (.if_icmp .ge w, nx, kd, a, b, v)) (hx : x.toInt = xi) (hz : z.toInt = zi) (hc : ¬ zi ≤ xi) (g : gw xs (WP xs d) y Q nx L st h mc ms) : gw xs (WP xs d) y Q pc L (.int z :: .int x :: st) h mc ms := g_ic_geF hr (fun q => hc ((le_k hz hx).mp q)) g
theorem h_ic_gt {xs : List Int32} {d y : Nat} {Q : QT} {pc : Nat} {L : LoS} {st : List Value} {h : AH} {mc ms : Nat} {nx kd a b : Nat} {v : Int32} {w : Int} {x : Int32} {xi zi : Int} {z : Int32} (hr : smI y pc = some (.if_icmp .gt w, nx, kd, a, b, v)) (hx : x.toInt = xi) (hz : z.toInt = zi) (gT : zi < xi → gw xs (WP xs d) y Q a L st h mc ms) (gF : ¬ zi < xi → gw xs (WP xs d) y Q nx L st h mc ms) : gw xs (WP xs d) y Q pc L (.int z :: .int x :: st) h mc ms := g_ic_gt hr (fun c => gT ((lt_k hz hx).mp c)) (fun c => gF (fun q => c ((lt_k hz hx).mpr q)))
theorem h_ic_gtT {xs : List Int32} {d y : Nat} {Q : QT} {pc : Nat} {L : LoS} {st : List Value} {h : AH} {mc ms : Nat} {nx kd a b : Nat} {v : Int32} {w : Int} {x : Int32} {xi zi : Int} {z : Int32} (hr : smI y pc = some (.if_icmp .gt w, nx, kd, a, b, v)) (hx : x.toInt = xi) (hz : z.toInt = zi) (hc : zi < xi) (g : gw xs (WP xs d) y Q a L st h mc ms) : gw xs (WP xs d) y Q pc L (.int z :: .int x :: st) h mc ms := g_ic_gtT hr ((lt_k hz hx).mpr hc) g
theorem h_ic_gtF {xs : List Int32} {d y : Nat} {Q : QT} {pc : Nat} {L : LoS} {st : List Value} {h : AH} {mc ms : Nat} {nx kd a b : Nat} {v : Int32} {w : Int} {x : Int32} {xi zi : Int} {z : Int32} (hr : smI y pc = some (.if_icmp .gt w, nx, kd, a, b, v)) (hx : x.toInt = xi) (hz : z.toInt = zi) (hc : ¬ zi < xi) (g : gw xs (WP xs d) y Q nx L st h mc ms) : gw xs (WP xs d) y Q pc L (.int z :: .int x :: st) h mc ms := g_ic_gtF hr (fun q => hc ((lt_k hz hx).mp q)) g
theorem h_ic_le {xs : List Int32} {d y : Nat} {Q : QT} {pc : Nat} {L : LoS} {st : List Value} {h : AH} {mc ms : Nat} {nx kd a b : Nat} {v : Int32} {w : Int} {x : Int32} {xi zi : Int} {z : Int32} (hr : smI y pc = some (.if_icmp .le w, nx, kd, a, b, v)) (hx : x.toInt = xi) (hz : z.toInt = zi) (gT : xi ≤ zi → gw xs (WP xs d) y Q a L st h mc ms) (gF : ¬ xi ≤ zi → gw xs (WP xs d) y Q nx L st h mc ms) : gw xs (WP xs d) y Q pc L (.int z :: .int x :: st) h mc ms := g_ic_le hr (fun c => gT ((le_k hx hz).mp c)) (fun c => gF (fun q => c ((le_k hx hz).mpr q)))
theorem h_ic_leT {xs : List Int32} {d y : Nat} {Q : QT} {pc : Nat} {L : LoS} {st : List Value} {h : AH} {mc ms : Nat} {nx kd a b : Nat} {v : Int32} {w : Int} {x : Int32} {xi zi : Int} {z : Int32} (hr : smI y pc = some (.if_icmp .le w, nx, kd, a, b, v)) (hx : x.toInt = xi) (hz : z.toInt = zi) (hc : xi ≤ zi) (g : gw xs (WP xs d) y Q a L st h mc ms) : gw xs (WP xs d) y Q pc L (.int z :: .int x :: st) h mc ms := g_ic_leT hr ((le_k hx hz).mpr hc) g
theorem h_ic_leF {xs : List Int32} {d y : Nat} {Q : QT} {pc : Nat} {L : LoS} {st : List Value} {h : AH} {mc ms : Nat} {nx kd a b : Nat} {v : Int32} {w : Int} {x : Int32} {xi zi : Int} {z : Int32} (hr : smI y pc = some (.if_icmp .le w, nx, kd, a, b, v)) (hx : x.toInt = xi) (hz : z.toInt = zi) (hc : ¬ xi ≤ zi) (g : gw xs (WP xs d) y Q nx L st h mc ms) : gw xs (WP xs d) y Q pc L (.int z :: .int x :: st) h mc ms := g_ic_leF hr (fun q => hc ((le_k hx hz).mp q)) g
theorem h_lawN {xs : List Int32} {d y : Nat} {Q : QT} {pc : Nat} {L : LoS} {st : List Value} {h : AH} {mc ms : Nat} {nx kd a b : Nat} {v : Int32} {w : Int} {x : Int32} (hr : smI y pc = some (.ifnonnull w, nx, kd, a, b, v)) (g0 : x = 0 → gw xs (WP xs d) y Q nx L st h mc ms) (g1 : ¬ x = 0 → gw xs (WP xs d) y Q a L st h mc ms) : gw xs (WP xs d) y Q pc L (lawV x :: st) h mc ms := by
  unfold lawV
  by_cases hx : x = 0
  · rw [if_pos hx]
    exact g_ifnonnullN hr (g0 hx)
  · rw [if_neg hx]
    exact g_ifnonnullR hr (g1 hx)
theorem h_lawZ {xs : List Int32} {d y : Nat} {Q : QT} {pc : Nat} {L : LoS} {st : List Value} {h : AH} {mc ms : Nat} {nx kd a b : Nat} {v : Int32} {w : Int} {x : Int32} (hr : smI y pc = some (.ifnull w, nx, kd, a, b, v)) (g0 : x = 0 → gw xs (WP xs d) y Q a L st h mc ms) (g1 : ¬ x = 0 → gw xs (WP xs d) y Q nx L st h mc ms) : gw xs (WP xs d) y Q pc L (lawV x :: st) h mc ms := by
  unfold lawV
  by_cases hx : x = 0
  · rw [if_pos hx]
    exact g_ifnullN hr (g0 hx)
  · rw [if_neg hx]
    exact g_ifnullR hr (g1 hx)
theorem lawV_ne {x : Int32} (h : ¬ x = 0) : lawV x = .ref (98 + 3 * x.toNatClampNeg) := if_neg h
theorem h_cv {xs : List Int32} {d y : Nat} {Q : QT} {pc : Nat} {L : LoS} {st rest args : List Value} {m : MW} {ln : Nat → Nat} {N mc ms : Nat} {nx a b n ci : Nat} {v : Int32} {p k : Nat} {fs : List Nat} (hr : smI y pc = some (.invokevirtual n, nx, 20, a, b, v)) (hn : mCn a = ci) (hb : b ≤ st.length) (ht : (st.take b).reverse = args) (hd : st.drop b = .ref p :: rest) (hp : 32 + k = p) (hc : TmAt ln N k (.inr (ci, fs))) (hcat : catS rest ≤ 8) (g : WP xs d a 0 0 (.ref p :: args) (H m ln N) (fun r h2 => gw xs (WP xs d) y Q nx L (r.toList ++ rest) h2 mc ms)) : gw xs (WP xs d) y Q pc L st (H m ln N) mc ms := by
  subst hn
  exact g_cv hr hb ht hd ((smC_H hp hc.1).trans (congrArg some (tmO hc))) hcat g
theorem t_0 (ln : Nat → Nat) (N : Nat) : TmAt ln N 0 (.inr (6, [33, 42, 51, 60, 69, 72, 0, 75, 77, 79, 88])) := tF rfl
theorem t_1 (ln : Nat → Nat) (N : Nat) : TmAt ln N 1 (.inr (4, [34, 35, 36, 37, 38, 39, 40, 41, 0, 0, 0, 1, 1])) := tF rfl
theorem t_2 (ln : Nat → Nat) (N : Nat) : TmAt ln N 2 (.inl (0, 8)) := tF rfl
theorem t_3 (ln : Nat → Nat) (N : Nat) : TmAt ln N 3 (.inl (0, 8)) := tF rfl
theorem t_4 (ln : Nat → Nat) (N : Nat) : TmAt ln N 4 (.inl (0, 8)) := tF rfl
theorem t_5 (ln : Nat → Nat) (N : Nat) : TmAt ln N 5 (.inl (0, 8)) := tF rfl
theorem t_6 (ln : Nat → Nat) (N : Nat) : TmAt ln N 6 (.inl (0, 8)) := tF rfl
theorem t_7 (ln : Nat → Nat) (N : Nat) : TmAt ln N 7 (.inl (0, 8)) := tF rfl
theorem t_8 (ln : Nat → Nat) (N : Nat) : TmAt ln N 8 (.inl (1, 8)) := tF rfl
theorem t_9 (ln : Nat → Nat) (N : Nat) : TmAt ln N 9 (.inl (0, 8)) := tF rfl
theorem t_10 (ln : Nat → Nat) (N : Nat) : TmAt ln N 10 (.inr (4, [43, 44, 45, 46, 47, 48, 49, 50, 0, 0, 0, 1, 1])) := tF rfl
theorem t_11 (ln : Nat → Nat) (N : Nat) : TmAt ln N 11 (.inl (0, 8)) := tF rfl
theorem t_12 (ln : Nat → Nat) (N : Nat) : TmAt ln N 12 (.inl (0, 8)) := tF rfl
theorem t_13 (ln : Nat → Nat) (N : Nat) : TmAt ln N 13 (.inl (0, 8)) := tF rfl
theorem t_14 (ln : Nat → Nat) (N : Nat) : TmAt ln N 14 (.inl (0, 8)) := tF rfl
theorem t_15 (ln : Nat → Nat) (N : Nat) : TmAt ln N 15 (.inl (0, 8)) := tF rfl
theorem t_16 (ln : Nat → Nat) (N : Nat) : TmAt ln N 16 (.inl (0, 8)) := tF rfl
theorem t_17 (ln : Nat → Nat) (N : Nat) : TmAt ln N 17 (.inl (1, 8)) := tF rfl
theorem t_18 (ln : Nat → Nat) (N : Nat) : TmAt ln N 18 (.inl (0, 8)) := tF rfl
theorem t_19 (ln : Nat → Nat) (N : Nat) : TmAt ln N 19 (.inr (4, [52, 53, 54, 55, 56, 57, 58, 59, 0, 0, 0, 1, 1])) := tF rfl
theorem t_20 (ln : Nat → Nat) (N : Nat) : TmAt ln N 20 (.inl (0, 8)) := tF rfl
theorem t_21 (ln : Nat → Nat) (N : Nat) : TmAt ln N 21 (.inl (0, 8)) := tF rfl
theorem t_22 (ln : Nat → Nat) (N : Nat) : TmAt ln N 22 (.inl (0, 8)) := tF rfl
theorem t_23 (ln : Nat → Nat) (N : Nat) : TmAt ln N 23 (.inl (0, 8)) := tF rfl
theorem t_24 (ln : Nat → Nat) (N : Nat) : TmAt ln N 24 (.inl (0, 8)) := tF rfl
theorem t_25 (ln : Nat → Nat) (N : Nat) : TmAt ln N 25 (.inl (0, 8)) := tF rfl
theorem t_26 (ln : Nat → Nat) (N : Nat) : TmAt ln N 26 (.inl (1, 8)) := tF rfl
theorem t_27 (ln : Nat → Nat) (N : Nat) : TmAt ln N 27 (.inl (0, 8)) := tF rfl
theorem t_28 (ln : Nat → Nat) (N : Nat) : TmAt ln N 28 (.inr (4, [61, 62, 63, 64, 65, 66, 67, 68, 0, 0, 0, 1, 1])) := tF rfl
theorem t_29 (ln : Nat → Nat) (N : Nat) : TmAt ln N 29 (.inl (0, 8)) := tF rfl
theorem t_30 (ln : Nat → Nat) (N : Nat) : TmAt ln N 30 (.inl (0, 8)) := tF rfl
theorem t_31 (ln : Nat → Nat) (N : Nat) : TmAt ln N 31 (.inl (0, 8)) := tF rfl
theorem t_32 (ln : Nat → Nat) (N : Nat) : TmAt ln N 32 (.inl (0, 8)) := tF rfl
theorem t_33 (ln : Nat → Nat) (N : Nat) : TmAt ln N 33 (.inl (0, 8)) := tF rfl
theorem t_34 (ln : Nat → Nat) (N : Nat) : TmAt ln N 34 (.inl (0, 8)) := tF rfl
theorem t_35 (ln : Nat → Nat) (N : Nat) : TmAt ln N 35 (.inl (1, 8)) := tF rfl
theorem t_36 (ln : Nat → Nat) (N : Nat) : TmAt ln N 36 (.inl (0, 8)) := tF rfl
theorem t_37 (ln : Nat → Nat) (N : Nat) : TmAt ln N 37 (.inr (0, [0, 70, 0, 71, 0])) := tF rfl
theorem t_38 (ln : Nat → Nat) (N : Nat) : TmAt ln N 38 (.inl (0, 50)) := tF rfl
theorem t_39 (ln : Nat → Nat) (N : Nat) : TmAt ln N 39 (.inl (0, 20)) := tF rfl
theorem t_40 (ln : Nat → Nat) (N : Nat) : TmAt ln N 40 (.inr (0, [0, 73, 0, 74, 0])) := tF rfl
theorem t_41 (ln : Nat → Nat) (N : Nat) : TmAt ln N 41 (.inl (0, 50)) := tF rfl
theorem t_42 (ln : Nat → Nat) (N : Nat) : TmAt ln N 42 (.inl (0, 20)) := tF rfl
theorem t_43 (ln : Nat → Nat) (N : Nat) : TmAt ln N 43 (.inr (2, [76, 0, 70, 0, 2, 0, 0])) := tF rfl
theorem t_44 (ln : Nat → Nat) (N : Nat) : TmAt ln N 44 (.inl (0, 50)) := tF rfl
theorem t_45 (ln : Nat → Nat) (N : Nat) : TmAt ln N 45 (.inr (5, [0, 0, 0, 78, 0])) := tF rfl
theorem t_46 (ln : Nat → Nat) (N : Nat) : TmAt ln N 46 (.inl (0, 40)) := tF rfl
theorem t_47 (ln : Nat → Nat) (N : Nat) : TmAt ln N 47 (.inr (50, [80, 82, 84, 86])) := tF rfl
theorem t_48 (ln : Nat → Nat) (N : Nat) : TmAt ln N 48 (.inr (3, [0, 0, 81])) := tF rfl
theorem t_49 (ln : Nat → Nat) (N : Nat) : TmAt ln N 49 (.inl (0, 40)) := tF rfl
theorem t_50 (ln : Nat → Nat) (N : Nat) : TmAt ln N 50 (.inr (3, [0, 0, 83])) := tF rfl
theorem t_51 (ln : Nat → Nat) (N : Nat) : TmAt ln N 51 (.inl (0, 40)) := tF rfl
theorem t_52 (ln : Nat → Nat) (N : Nat) : TmAt ln N 52 (.inr (3, [0, 0, 85])) := tF rfl
theorem t_53 (ln : Nat → Nat) (N : Nat) : TmAt ln N 53 (.inl (0, 40)) := tF rfl
theorem t_54 (ln : Nat → Nat) (N : Nat) : TmAt ln N 54 (.inr (3, [0, 0, 87])) := tF rfl
theorem t_55 (ln : Nat → Nat) (N : Nat) : TmAt ln N 55 (.inl (0, 40)) := tF rfl
theorem t_56 (ln : Nat → Nat) (N : Nat) : TmAt ln N 56 (.inl (0, 6)) := tF rfl
theorem t_57 (ln : Nat → Nat) (N : Nat) : TmAt ln N 57 (.inr (7, [90, 91, 92, 93, 0, 0, 94, 0, 0, 0, 0, 0, 0, 0, 0, 95, 96, 97, 98, 99, 100, 0, 0, 0, 0])) := tF rfl
theorem t_58 (ln : Nat → Nat) (N : Nat) : TmAt ln N 58 (.inl (0, 234)) := tF rfl
theorem t_59 (ln : Nat → Nat) (N : Nat) : TmAt ln N 59 (.inl (0, 234)) := tF rfl
theorem t_60 (ln : Nat → Nat) (N : Nat) : TmAt ln N 60 (.inl (0, 234)) := tF rfl
theorem t_61 (ln : Nat → Nat) (N : Nat) : TmAt ln N 61 (.inl (0, 234)) := tF rfl
theorem t_62 (ln : Nat → Nat) (N : Nat) : TmAt ln N 62 (.inl (0, 6)) := tF rfl
theorem t_63 (ln : Nat → Nat) (N : Nat) : TmAt ln N 63 (.inl (0, 4)) := tF rfl
theorem t_64 (ln : Nat → Nat) (N : Nat) : TmAt ln N 64 (.inl (0, 4)) := tF rfl
theorem t_65 (ln : Nat → Nat) (N : Nat) : TmAt ln N 65 (.inl (0, 160)) := tF rfl
theorem t_66 (ln : Nat → Nat) (N : Nat) : TmAt ln N 66 (.inl (0, 40)) := tF rfl
theorem t_67 (ln : Nat → Nat) (N : Nat) : TmAt ln N 67 (.inl (0, 8)) := tF rfl
theorem t_68 (ln : Nat → Nat) (N : Nat) : TmAt ln N 68 (.inl (0, 40)) := tF rfl
theorem pLo (i : Nat) : 32 + (69 + 3 * i) = 101 + 3 * i := by omega
theorem pLc (i : Nat) : 32 + (70 + 3 * i) = 102 + 3 * i := by omega
theorem pLw (i : Nat) : 32 + (71 + 3 * i) = 103 + 3 * i := by omega
theorem pSo (i : Nat) : 32 + (48 + 2 * i) = 80 + 2 * i := by omega
theorem pSn (i : Nat) : 32 + (49 + 2 * i) = 81 + 2 * i := by omega
theorem pT (n t : Nat) : 32 + (n + 9 * t) = (32 + n) + 9 * t := by omega
theorem le3 {n x : Nat} (h : 3 ≤ n) : 3 ≤ n + x := Nat.le_trans h (Nat.le_add_right n x)
/-- the four tables -/
def tO (t : Nat) : TM := .inr (4, [34 + 9 * t, 35 + 9 * t, 36 + 9 * t, 37 + 9 * t, 38 + 9 * t, 39 + 9 * t, 40 + 9 * t, 41 + 9 * t, 0, 0, 0, 1, 1])
theorem tT {ln : Nat → Nat} {N t : Nat} (ht : t < 4) : TmAt ln N (1 + 9 * t) (.inr (4, [34 + 9 * t, 35 + 9 * t, 36 + 9 * t, 37 + 9 * t, 38 + 9 * t, 39 + 9 * t, 40 + 9 * t, 41 + 9 * t, 0, 0, 0, 1, 1])) := by
  rcases (show t = 0 ∨ t = 1 ∨ t = 2 ∨ t = 3 by omega) with rfl | rfl | rfl | rfl <;> exact tF rfl
theorem tA1 {ln : Nat → Nat} {N t : Nat} (ht : t < 4) : TmAt ln N (2 + 9 * t) (.inl (0, 8)) := by
  rcases (show t = 0 ∨ t = 1 ∨ t = 2 ∨ t = 3 by omega) with rfl | rfl | rfl | rfl <;> exact tF rfl
theorem tA2 {ln : Nat → Nat} {N t : Nat} (ht : t < 4) : TmAt ln N (3 + 9 * t) (.inl (0, 8)) := by
  rcases (show t = 0 ∨ t = 1 ∨ t = 2 ∨ t = 3 by omega) with rfl | rfl | rfl | rfl <;> exact tF rfl
theorem tA3 {ln : Nat → Nat} {N t : Nat} (ht : t < 4) : TmAt ln N (4 + 9 * t) (.inl (0, 8)) := by
  rcases (show t = 0 ∨ t = 1 ∨ t = 2 ∨ t = 3 by omega) with rfl | rfl | rfl | rfl <;> exact tF rfl
theorem tA4 {ln : Nat → Nat} {N t : Nat} (ht : t < 4) : TmAt ln N (5 + 9 * t) (.inl (0, 8)) := by
  rcases (show t = 0 ∨ t = 1 ∨ t = 2 ∨ t = 3 by omega) with rfl | rfl | rfl | rfl <;> exact tF rfl
theorem tA5 {ln : Nat → Nat} {N t : Nat} (ht : t < 4) : TmAt ln N (6 + 9 * t) (.inl (0, 8)) := by
  rcases (show t = 0 ∨ t = 1 ∨ t = 2 ∨ t = 3 by omega) with rfl | rfl | rfl | rfl <;> exact tF rfl
theorem tA6 {ln : Nat → Nat} {N t : Nat} (ht : t < 4) : TmAt ln N (7 + 9 * t) (.inl (0, 8)) := by
  rcases (show t = 0 ∨ t = 1 ∨ t = 2 ∨ t = 3 by omega) with rfl | rfl | rfl | rfl <;> exact tF rfl
theorem tA7 {ln : Nat → Nat} {N t : Nat} (ht : t < 4) : TmAt ln N (8 + 9 * t) (.inl (1, 8)) := by
  rcases (show t = 0 ∨ t = 1 ∨ t = 2 ∨ t = 3 by omega) with rfl | rfl | rfl | rfl <;> exact tF rfl
theorem tA8 {ln : Nat → Nat} {N t : Nat} (ht : t < 4) : TmAt ln N (9 + 9 * t) (.inl (0, 8)) := by
  rcases (show t = 0 ∨ t = 1 ∨ t = 2 ∨ t = 3 by omega) with rfl | rfl | rfl | rfl <;> exact tF rfl
theorem tSo {ln : Nat → Nat} {N s : Nat} (hs : s < 4) : TmAt ln N (48 + 2 * s) (.inr (3, [0, 0, 81 + 2 * s])) := by
  rcases (show s = 0 ∨ s = 1 ∨ s = 2 ∨ s = 3 by omega) with rfl | rfl | rfl | rfl <;> exact tF rfl
theorem tSn {ln : Nat → Nat} {N s : Nat} (hs : s < 4) : TmAt ln N (49 + 2 * s) (.inl (0, 40)) := by
  rcases (show s = 0 ∨ s = 1 ∨ s = 2 ∨ s = 3 by omega) with rfl | rfl | rfl | rfl <;> exact tF rfl
theorem sh_at {s : Nat} (hs : s < 4) : ([80, 82, 84, 86] : List Nat)[s]? = some (80 + 2 * s) := by
  rcases (show s = 0 ∨ s = 1 ∨ s = 2 ∨ s = 3 by omega) with rfl | rfl | rfl | rfl <;> rfl
end
