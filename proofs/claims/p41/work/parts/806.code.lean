section
/-! THE CODE: each instruction of the tables is what the bytes decode to, and its resolution is the tables' -/
def swO (pc : Nat) (o : Int) : Bool := decide (0 ≤ (pc : Int) + o)
def okR (y pc : Nat) (r : RI) : Bool :=
  match r with
  | (i, nx, kd, a, b, v) =>
  match i with
  | .iconst n => nx == pc + 1 && decide (Int32.ofInt n = v)
  | .bipush n => nx == pc + 2 && decide ((Int8.ofInt n).toInt32 = v)
  | .sipush n => nx == pc + 3 && decide ((Int16.ofInt n).toInt32 = v)
  | .ldc k => nx == pc + 2 && (if a = 0 then decide ((mCn y, k, v) ∈ COl) else decide ((mCn y, k, a) ∈ SRl))
  | .ldc_w k => nx == pc + 3 && decide ((mCn y, k, v) ∈ COl)
  | .ldc2_w k => nx == pc + 3 && decide ((mCn y, k, a) ∈ C2l)
  | .iload _ => nx == pc + 2
  | .aload _ => nx == pc + 2
  | .istore _ => nx == pc + 2
  | .astore _ => nx == pc + 2
  | .iinc _ n => nx == pc + 3 && decide (Int32.ofInt n = v)
  | .goto o => nx == pc + 3 && decide ((pc : Int) + o = (a : Int))
  | .ifnull o => nx == pc + 3 && decide ((pc : Int) + o = (a : Int))
  | .ifnonnull o => nx == pc + 3 && decide ((pc : Int) + o = (a : Int))
  | .ifCond _ o => nx == pc + 3 && decide ((pc : Int) + o = (a : Int))
  | .if_icmp _ o => nx == pc + 3 && decide ((pc : Int) + o = (a : Int))
  | .tableswitch d lo hi offs => swO pc d && offs.toList.all (swO pc)
  | .lookupswitch d ps => (ps.toList.zip (ps.toList.drop 1)).all (fun (a, next) => a.1 < next.1) && swO pc d && ps.toList.all (fun q => swO pc q.2)
  | .getfield k => nx == pc + 3 && (if a = 60 then decide ((mCn y, k, b) ∈ SFl) else decide ((mCn y, k, a, b) ∈ FLl))
  | .putfield k => nx == pc + 3 && decide ((mCn y, k, a, b) ∈ FLl) && (if (TT a b).2.2.2 = true then decide (mFl y = 2) && decide ((TT a b).1 = clsN (mCn y)) else true)
  | .getstatic k => nx == pc + 3 && decide ((mCn y, k, a) ∈ GSl)
  | .new k => nx == pc + 3 && decide ((mCn y, k, a) ∈ CLl) && decide (a < 8) && INl.any (fun q => q.1 == a && q.2.2 == b)
  | .newarray t => nx == pc + 2 && (decide (t = .int ∧ a = 0) || decide (t = .boolean ∧ a = 1))
  | .anewarray k => nx == pc + 3 && decide ((mCn y, k, 3) ∈ CLl)
  | .checkcast k => nx == pc + 3 && decide ((mCn y, k, 90) ∈ CLl)
  | .invokestatic k => nx == pc + 3 && (match kd with
    | 0 => decide ((mCn y, k, a, 0) ∈ MLl) && decide (b = mNa a) && decide (mFl a = 0) && decide (a < 190)
    | 1 => decide ((mCn y, k, a, 1) ∈ NLl) && decide (b = mNa a) && decide (mFl a = 0) && decide (a < 190)
    | 2 => decide ((mCn y, k, 2) ∈ MSl)
    | 3 => decide ((mCn y, k, 3) ∈ MSl)
    | 4 => decide ((mCn y, k, 4) ∈ MSl)
    | _ => false)
  | .invokevirtual k => nx == pc + 3 && (match kd with
    | 20 => decide ((mCn y, k, a, 20) ∈ MLl) && decide (b = mNa a) && decide (mFl a = 1) && decide (a < 190)
    | 5 => decide ((mCn y, k, 5) ∈ MSl)
    | _ => false)
  | .invokespecial k => nx == pc + 3 && (match kd with
    | 10 => decide ((mCn y, k, a, 10) ∈ MLl) && decide (b = mNa a) && decide (mFl a = 2) && decide (a < 190)
    | 11 => decide ((mCn y, k, a, 11) ∈ NLl) && decide (b = mNa a) && decide (mFl a = 2) && decide (a < 190)
    | 12 => decide ((mCn y, k, 12) ∈ MSl)
    | _ => false)
  | .areturn => nx == pc + 1 && (match mRt y with
    | some (.object _) => true
    | some (.array _) => true
    | _ => false)
  | .return_ => nx == pc + 1 && decide (mRt y = none)
  | _ => nx == pc + 1
def ckR (y pc : Nat) (o : Option RI) : Bool := match o with
  | none => true
  | some r => decide (decode (mCd y) pc = .ok (r.1, r.2.1 - pc)) && okR y pc r
def ckP (y : Nat) (k : Nat) : List (Option RI) → Bool
  | [] => true
  | o :: l => ckR y k o && ckP y (k + 1) l
abbrev dkP (y : Nat) : Prop := ckP y 0 (allT.getD y []) = true
theorem ckP_e {y : Nat} : ∀ (l : List (Option RI)) (k pc : Nat) (r : RI), ckP y k l = true → l.getD pc none = some r → decode (mCd y) (k + pc) = .ok (r.1, r.2.1 - (k + pc)) ∧ okR y (k + pc) r = true := by
  intro l
  induction l with
  | nil => intro k pc r _ h; simp at h
  | cons o l ih =>
    intro k pc r h hr
    rw [ckP, Bool.and_eq_true] at h
    cases pc with
    | zero =>
      have hr : o = some r := by simpa using hr
      subst hr
      have h1 := h.1
      rw [ckR, Bool.and_eq_true, decide_eq_true_eq] at h1
      exact h1
    | succ pc =>
      have := ih (k + 1) pc r h.2 (by simpa using hr)
      rwa [show k + 1 + pc = k + (pc + 1) by omega] at this
def zokS (y pc : Nat) (s : List UInt8) (r : RI) : Bool := (match zbe r.1 s with
  | 0 => decide (decode (mCd y) pc = .ok (r.1, r.2.1 - pc))
  | k + 1 => decide (r.2.1 = pc + (k + 1))) && okR y pc r
def zckO (y pc : Nat) (s : List UInt8) (o : Option RI) : Bool := match o with
  | none => true
  | some r => zokS y pc s r
def zckS (y : Nat) (k : Nat) (s : List UInt8) : List (Option RI) → Bool
  | [] => true
  | o :: l => zckO y k s o && zckS y (k + 1) s.tail l
theorem zck1 {y k : Nat} {s : List UInt8} (hs : (mCd y).data.toList.drop k = s) {o : Option RI} (h : zckO y k s o = true) : ckR y k o = true := by
  cases o with
  | none => rfl
  | some r =>
    have h : zokS y k s r = true := h
    unfold zokS at h
    rw [Bool.and_eq_true] at h
    obtain ⟨h1, h2⟩ := h
    rw [ckR, Bool.and_eq_true, decide_eq_true_eq]
    refine ⟨?_, h2⟩
    cases e : zbe r.1 s with
    | zero =>
      rw [e] at h1
      exact of_decide_eq_true h1
    | succ n =>
      rw [e] at h1
      have h3 : r.2.1 = k + (n + 1) := of_decide_eq_true h1
      have h4 := dec_of (zbe_ok hs r.1 (by rw [e]; exact Nat.succ_pos n))
      rw [e] at h4
      rw [h4, h3]
theorem zck_P {y : Nat} : ∀ (l : List (Option RI)) (k : Nat) (s : List UInt8), (mCd y).data.toList.drop k = s → zckS y k s l = true → ckP y k l = true := by
  intro l
  induction l with
  | nil => intro k s _ _; rfl
  | cons o l ih =>
    intro k s hs h
    rw [zckS, Bool.and_eq_true] at h
    rw [ckP, Bool.and_eq_true]
    exact ⟨zck1 hs h.1, ih (k + 1) s.tail (by rw [← hs]; exact (tl_dr _ k).symm) h.2⟩
theorem dk_of {y : Nat} (h : zckS y 0 (mCd y).data.toList (allT.getD y []) = true) : dkP y := zck_P _ 0 _ rfl h
theorem dl_of {y k : Nat} {l : List (Option RI)} (h : zckS y k ((mCd y).data.toList.drop k) l = true) : ckP y k l = true := zck_P l k _ rfl h
set_option maxRecDepth 20000 in
theorem dk_0 : dkP 0 := dk_of (by decide +kernel)
set_option maxRecDepth 20000 in
theorem dk_1 : dkP 1 := dk_of (by decide +kernel)
set_option maxRecDepth 20000 in
theorem dk_2 : dkP 2 := dk_of (by decide +kernel)
set_option maxRecDepth 20000 in
theorem dk_3 : dkP 3 := dk_of (by decide +kernel)
set_option maxRecDepth 20000 in
theorem dk_4 : dkP 4 := dk_of (by decide +kernel)
set_option maxRecDepth 20000 in
theorem dk_5 : dkP 5 := dk_of (by decide +kernel)
set_option maxRecDepth 20000 in
theorem dk_6 : dkP 6 := dk_of (by decide +kernel)
set_option maxRecDepth 20000 in
theorem dk_7 : dkP 7 := dk_of (by decide +kernel)
set_option maxRecDepth 20000 in
theorem dk_8 : dkP 8 := dk_of (by decide +kernel)
set_option maxRecDepth 20000 in
theorem dk_9 : dkP 9 := dk_of (by decide +kernel)
set_option maxRecDepth 20000 in
theorem dk_10 : dkP 10 := dk_of (by decide +kernel)
set_option maxRecDepth 20000 in
theorem dk_11 : dkP 11 := dk_of (by decide +kernel)
set_option maxRecDepth 20000 in
theorem dk_12 : dkP 12 := dk_of (by decide +kernel)
set_option maxRecDepth 20000 in
theorem dk_13 : dkP 13 := dk_of (by decide +kernel)
set_option maxRecDepth 20000 in
theorem dk_14 : dkP 14 := dk_of (by decide +kernel)
set_option maxRecDepth 20000 in
theorem dk_15 : dkP 15 := dk_of (by decide +kernel)
set_option maxRecDepth 20000 in
theorem dk_16 : dkP 16 := dk_of (by decide +kernel)
set_option maxRecDepth 20000 in
theorem dk_17 : dkP 17 := dk_of (by decide +kernel)
set_option maxRecDepth 20000 in
theorem dk_18 : dkP 18 := dk_of (by decide +kernel)
set_option maxRecDepth 20000 in
theorem dk_19 : dkP 19 := dk_of (by decide +kernel)
set_option maxRecDepth 20000 in
theorem dk_20 : dkP 20 := dk_of (by decide +kernel)
set_option maxRecDepth 20000 in
theorem dk_21 : dkP 21 := dk_of (by decide +kernel)
set_option maxRecDepth 20000 in
theorem dk_22 : dkP 22 := dk_of (by decide +kernel)
set_option maxRecDepth 20000 in
theorem dk_23 : dkP 23 := dk_of (by decide +kernel)
set_option maxRecDepth 20000 in
theorem dk_24 : dkP 24 := dk_of (by decide +kernel)
set_option maxRecDepth 20000 in
theorem dk_25 : dkP 25 := dk_of (by decide +kernel)
set_option maxRecDepth 20000 in
theorem dk_26 : dkP 26 := dk_of (by decide +kernel)
set_option maxRecDepth 20000 in
theorem dk_27 : dkP 27 := dk_of (by decide +kernel)
set_option maxRecDepth 20000 in
theorem dk_28 : dkP 28 := dk_of (by decide +kernel)
set_option maxRecDepth 20000 in
theorem dk_29 : dkP 29 := dk_of (by decide +kernel)
set_option maxRecDepth 20000 in
theorem dk_30 : dkP 30 := dk_of (by decide +kernel)
set_option maxRecDepth 20000 in
theorem dk_31 : dkP 31 := dk_of (by decide +kernel)
set_option maxRecDepth 20000 in
theorem dk_32 : dkP 32 := dk_of (by decide +kernel)
set_option maxRecDepth 20000 in
theorem dk_33 : dkP 33 := dk_of (by decide +kernel)
set_option maxRecDepth 20000 in
theorem dk_34 : dkP 34 := dk_of (by decide +kernel)
set_option maxRecDepth 20000 in
theorem dk_35 : dkP 35 := dk_of (by decide +kernel)
set_option maxRecDepth 20000 in
theorem dk_36 : dkP 36 := dk_of (by decide +kernel)
set_option maxRecDepth 20000 in
theorem dk_37 : dkP 37 := dk_of (by decide +kernel)
set_option maxRecDepth 20000 in
theorem dk_38 : dkP 38 := dk_of (by decide +kernel)
set_option maxRecDepth 20000 in
theorem dk_39 : dkP 39 := dk_of (by decide +kernel)
set_option maxRecDepth 20000 in
theorem dk_40 : dkP 40 := dk_of (by decide +kernel)
set_option maxRecDepth 20000 in
theorem dk_41 : dkP 41 := dk_of (by decide +kernel)
set_option maxRecDepth 20000 in
theorem dk_42 : dkP 42 := dk_of (by decide +kernel)
set_option maxRecDepth 20000 in
theorem dk_43 : dkP 43 := dk_of (by decide +kernel)
set_option maxRecDepth 20000 in
theorem dk_44 : dkP 44 := dk_of (by decide +kernel)
set_option maxRecDepth 20000 in
theorem dk_45 : dkP 45 := dk_of (by decide +kernel)
set_option maxRecDepth 20000 in
theorem dk_46 : dkP 46 := dk_of (by decide +kernel)
set_option maxRecDepth 20000 in
theorem dk_47 : dkP 47 := dk_of (by decide +kernel)
set_option maxRecDepth 20000 in
theorem dk_48 : dkP 48 := dk_of (by decide +kernel)
set_option maxRecDepth 20000 in
theorem dk_49 : dkP 49 := dk_of (by decide +kernel)
set_option maxRecDepth 20000 in
theorem dk_50 : dkP 50 := dk_of (by decide +kernel)
set_option maxRecDepth 20000 in
theorem dk_51 : dkP 51 := dk_of (by decide +kernel)
set_option maxRecDepth 20000 in
theorem dk_52 : dkP 52 := dk_of (by decide +kernel)
set_option maxRecDepth 20000 in
theorem dk_53 : dkP 53 := dk_of (by decide +kernel)
set_option maxRecDepth 20000 in
theorem dk_54 : dkP 54 := dk_of (by decide +kernel)
set_option maxRecDepth 20000 in
theorem dk_55 : dkP 55 := dk_of (by decide +kernel)
set_option maxRecDepth 20000 in
theorem dk_56 : dkP 56 := dk_of (by decide +kernel)
set_option maxRecDepth 20000 in
theorem dk_57 : dkP 57 := dk_of (by decide +kernel)
set_option maxRecDepth 20000 in
theorem dk_58 : dkP 58 := dk_of (by decide +kernel)
set_option maxRecDepth 20000 in
theorem dk_59 : dkP 59 := dk_of (by decide +kernel)
set_option maxRecDepth 20000 in
theorem dk_60 : dkP 60 := dk_of (by decide +kernel)
set_option maxRecDepth 20000 in
theorem dk_61 : dkP 61 := dk_of (by decide +kernel)
set_option maxRecDepth 20000 in
theorem dk_62 : dkP 62 := dk_of (by decide +kernel)
set_option maxRecDepth 20000 in
theorem dk_63 : dkP 63 := dk_of (by decide +kernel)
set_option maxRecDepth 20000 in
theorem dk_64 : dkP 64 := dk_of (by decide +kernel)
set_option maxRecDepth 20000 in
theorem dk_65 : dkP 65 := dk_of (by decide +kernel)
set_option maxRecDepth 20000 in
theorem dk_66 : dkP 66 := dk_of (by decide +kernel)
set_option maxRecDepth 20000 in
theorem dk_67 : dkP 67 := dk_of (by decide +kernel)
set_option maxRecDepth 20000 in
theorem dk_68 : dkP 68 := dk_of (by decide +kernel)
set_option maxRecDepth 20000 in
theorem dk_69 : dkP 69 := dk_of (by decide +kernel)
set_option maxRecDepth 20000 in
theorem dk_70 : dkP 70 := dk_of (by decide +kernel)
set_option maxRecDepth 20000 in
theorem dk_71 : dkP 71 := dk_of (by decide +kernel)
set_option maxRecDepth 20000 in
theorem dk_72 : dkP 72 := dk_of (by decide +kernel)
set_option maxRecDepth 20000 in
theorem dk_73 : dkP 73 := dk_of (by decide +kernel)
set_option maxRecDepth 20000 in
theorem dk_74 : dkP 74 := dk_of (by decide +kernel)
set_option maxRecDepth 20000 in
theorem dk_75 : dkP 75 := dk_of (by decide +kernel)
set_option maxRecDepth 20000 in
theorem dk_76 : dkP 76 := dk_of (by decide +kernel)
set_option maxRecDepth 20000 in
theorem dk_77 : dkP 77 := dk_of (by decide +kernel)
set_option maxRecDepth 20000 in
theorem dk_78 : dkP 78 := dk_of (by decide +kernel)
set_option maxRecDepth 20000 in
theorem dk_79 : dkP 79 := dk_of (by decide +kernel)
set_option maxRecDepth 20000 in
theorem dk_80 : dkP 80 := dk_of (by decide +kernel)
set_option maxRecDepth 20000 in
theorem dk_81 : dkP 81 := dk_of (by decide +kernel)
set_option maxRecDepth 20000 in
theorem dk_82 : dkP 82 := dk_of (by decide +kernel)
set_option maxRecDepth 20000 in
theorem dk_83 : dkP 83 := dk_of (by decide +kernel)
set_option maxRecDepth 20000 in
theorem dk_84 : dkP 84 := dk_of (by decide +kernel)
set_option maxRecDepth 20000 in
theorem dk_85 : dkP 85 := dk_of (by decide +kernel)
set_option maxRecDepth 20000 in
theorem dk_86 : dkP 86 := dk_of (by decide +kernel)
set_option maxRecDepth 20000 in
theorem dk_87 : dkP 87 := dk_of (by decide +kernel)
set_option maxRecDepth 20000 in
theorem dk_88 : dkP 88 := dk_of (by decide +kernel)
set_option maxRecDepth 20000 in
theorem dk_89 : dkP 89 := dk_of (by decide +kernel)
set_option maxRecDepth 20000 in
theorem dk_90 : dkP 90 := dk_of (by decide +kernel)
set_option maxRecDepth 20000 in
theorem dk_91 : dkP 91 := dk_of (by decide +kernel)
set_option maxRecDepth 20000 in
theorem dk_92 : dkP 92 := dk_of (by decide +kernel)
set_option maxRecDepth 20000 in
theorem dk_93 : dkP 93 := dk_of (by decide +kernel)
set_option maxRecDepth 20000 in
theorem dk_94 : dkP 94 := dk_of (by decide +kernel)
set_option maxRecDepth 20000 in
theorem dk_95 : dkP 95 := dk_of (by decide +kernel)
set_option maxRecDepth 20000 in
theorem dk_96 : dkP 96 := dk_of (by decide +kernel)
set_option maxRecDepth 20000 in
theorem dk_97 : dkP 97 := dk_of (by decide +kernel)
set_option maxRecDepth 20000 in
theorem dk_98 : dkP 98 := dk_of (by decide +kernel)
set_option maxRecDepth 20000 in
theorem dk_99 : dkP 99 := dk_of (by decide +kernel)
set_option maxRecDepth 20000 in
theorem dk_100 : dkP 100 := dk_of (by decide +kernel)
set_option maxRecDepth 20000 in
theorem dk_101 : dkP 101 := dk_of (by decide +kernel)
set_option maxRecDepth 20000 in
theorem dk_102 : dkP 102 := dk_of (by decide +kernel)
set_option maxRecDepth 20000 in
theorem dk_103 : dkP 103 := dk_of (by decide +kernel)
set_option maxRecDepth 20000 in
theorem dk_104 : dkP 104 := dk_of (by decide +kernel)
set_option maxRecDepth 20000 in
theorem dk_105 : dkP 105 := dk_of (by decide +kernel)
set_option maxRecDepth 20000 in
theorem dk_106 : dkP 106 := dk_of (by decide +kernel)
set_option maxRecDepth 20000 in
theorem dk_107 : dkP 107 := dk_of (by decide +kernel)
set_option maxRecDepth 20000 in
theorem dk_108 : dkP 108 := dk_of (by decide +kernel)
set_option maxRecDepth 20000 in
theorem dk_109 : dkP 109 := dk_of (by decide +kernel)
set_option maxRecDepth 20000 in
theorem dk_110 : dkP 110 := dk_of (by decide +kernel)
set_option maxRecDepth 20000 in
theorem dk_111 : dkP 111 := dk_of (by decide +kernel)
set_option maxRecDepth 20000 in
theorem dk_112 : dkP 112 := dk_of (by decide +kernel)
set_option maxRecDepth 20000 in
theorem dk_113 : dkP 113 := dk_of (by decide +kernel)
set_option maxRecDepth 20000 in
theorem dk_114 : dkP 114 := dk_of (by decide +kernel)
set_option maxRecDepth 20000 in
theorem dk_115 : dkP 115 := dk_of (by decide +kernel)
set_option maxRecDepth 20000 in
theorem dk_116 : dkP 116 := dk_of (by decide +kernel)
set_option maxRecDepth 20000 in
theorem dk_117 : dkP 117 := dk_of (by decide +kernel)
set_option maxRecDepth 20000 in
theorem dk_118 : dkP 118 := dk_of (by decide +kernel)
set_option maxRecDepth 20000 in
theorem dk_119 : dkP 119 := dk_of (by decide +kernel)
set_option maxRecDepth 20000 in
theorem dk_120 : dkP 120 := dk_of (by decide +kernel)
set_option maxRecDepth 20000 in
theorem dk_121 : dkP 121 := dk_of (by decide +kernel)
set_option maxRecDepth 20000 in
theorem dk_122 : dkP 122 := dk_of (by decide +kernel)
set_option maxRecDepth 20000 in
theorem dk_123 : dkP 123 := dk_of (by decide +kernel)
set_option maxRecDepth 20000 in
theorem dk_124 : dkP 124 := dk_of (by decide +kernel)
set_option maxRecDepth 20000 in
theorem dk_125 : dkP 125 := dk_of (by decide +kernel)
set_option maxRecDepth 20000 in
theorem dk_126 : dkP 126 := dk_of (by decide +kernel)
set_option maxRecDepth 20000 in
theorem dk_127 : dkP 127 := dk_of (by decide +kernel)
set_option maxRecDepth 20000 in
theorem dk_128 : dkP 128 := dk_of (by decide +kernel)
set_option maxRecDepth 20000 in
theorem dk_129 : dkP 129 := dk_of (by decide +kernel)
set_option maxRecDepth 20000 in
theorem dk_130 : dkP 130 := dk_of (by decide +kernel)
set_option maxRecDepth 20000 in
theorem dk_131 : dkP 131 := dk_of (by decide +kernel)
set_option maxRecDepth 20000 in
theorem dk_132 : dkP 132 := dk_of (by decide +kernel)
set_option maxRecDepth 20000 in
theorem dk_133 : dkP 133 := dk_of (by decide +kernel)
set_option maxRecDepth 20000 in
theorem dk_134 : dkP 134 := dk_of (by decide +kernel)
set_option maxRecDepth 20000 in
theorem dk_135 : dkP 135 := dk_of (by decide +kernel)
set_option maxRecDepth 20000 in
theorem dk_136 : dkP 136 := dk_of (by decide +kernel)
set_option maxRecDepth 20000 in
theorem dk_137 : dkP 137 := dk_of (by decide +kernel)
set_option maxRecDepth 20000 in
theorem dk_138 : dkP 138 := dk_of (by decide +kernel)
set_option maxRecDepth 20000 in
theorem dk_139 : dkP 139 := dk_of (by decide +kernel)
set_option maxRecDepth 20000 in
theorem dk_140 : dkP 140 := dk_of (by decide +kernel)
set_option maxRecDepth 20000 in
theorem dk_141 : dkP 141 := dk_of (by decide +kernel)
set_option maxRecDepth 20000 in
theorem dk_142 : dkP 142 := dk_of (by decide +kernel)
set_option maxRecDepth 20000 in
theorem dk_143 : dkP 143 := dk_of (by decide +kernel)
set_option maxRecDepth 20000 in
theorem dk_144 : dkP 144 := dk_of (by decide +kernel)
set_option maxRecDepth 20000 in
theorem dk_145 : dkP 145 := dk_of (by decide +kernel)
set_option maxRecDepth 20000 in
theorem dk_146 : dkP 146 := dk_of (by decide +kernel)
set_option maxRecDepth 20000 in
theorem dk_147 : dkP 147 := dk_of (by decide +kernel)
set_option maxRecDepth 20000 in
theorem dk_148 : dkP 148 := dk_of (by decide +kernel)
set_option maxRecDepth 20000 in
theorem dk_149 : dkP 149 := dk_of (by decide +kernel)
set_option maxRecDepth 20000 in
theorem dk_150 : dkP 150 := dk_of (by decide +kernel)
set_option maxRecDepth 20000 in
theorem dk_151 : dkP 151 := dk_of (by decide +kernel)
set_option maxRecDepth 20000 in
theorem dk_152 : dkP 152 := dk_of (by decide +kernel)
set_option maxRecDepth 20000 in
theorem dk_153 : dkP 153 := dk_of (by decide +kernel)
set_option maxRecDepth 20000 in
theorem dk_154 : dkP 154 := dk_of (by decide +kernel)
set_option maxRecDepth 20000 in
theorem dk_155 : dkP 155 := dk_of (by decide +kernel)
set_option maxRecDepth 20000 in
theorem dk_156 : dkP 156 := dk_of (by decide +kernel)
set_option maxRecDepth 20000 in
theorem dk_157 : dkP 157 := dk_of (by decide +kernel)
set_option maxRecDepth 20000 in
theorem dk_158 : dkP 158 := dk_of (by decide +kernel)
set_option maxRecDepth 20000 in
theorem dk_159 : dkP 159 := dk_of (by decide +kernel)
set_option maxRecDepth 20000 in
theorem dk_160 : dkP 160 := dk_of (by decide +kernel)
set_option maxRecDepth 20000 in
theorem dk_161 : dkP 161 := dk_of (by decide +kernel)
set_option maxRecDepth 20000 in
theorem dk_162 : dkP 162 := dk_of (by decide +kernel)
set_option maxRecDepth 20000 in
theorem dk_163 : dkP 163 := dk_of (by decide +kernel)
set_option maxRecDepth 20000 in
theorem dk_164 : dkP 164 := dk_of (by decide +kernel)
set_option maxRecDepth 20000 in
theorem dk_165 : dkP 165 := dk_of (by decide +kernel)
set_option maxRecDepth 20000 in
theorem dk_166 : dkP 166 := dk_of (by decide +kernel)
set_option maxRecDepth 20000 in
theorem dk_167 : dkP 167 := dk_of (by decide +kernel)
set_option maxRecDepth 20000 in
theorem dk_168 : dkP 168 := dk_of (by decide +kernel)
set_option maxRecDepth 20000 in
theorem dk_169 : dkP 169 := dk_of (by decide +kernel)
set_option maxRecDepth 20000 in
theorem dk_170 : dkP 170 := dk_of (by decide +kernel)
set_option maxRecDepth 20000 in
theorem dk_171 : dkP 171 := dk_of (by decide +kernel)
set_option maxRecDepth 20000 in
theorem dk_172 : dkP 172 := dk_of (by decide +kernel)
set_option maxRecDepth 20000 in
theorem dk_173 : dkP 173 := dk_of (by decide +kernel)
set_option maxRecDepth 20000 in
theorem dk_174 : dkP 174 := dk_of (by decide +kernel)
set_option maxRecDepth 20000 in
theorem dk_175 : dkP 175 := dk_of (by decide +kernel)
set_option maxRecDepth 20000 in
theorem dk_176 : dkP 176 := dk_of (by decide +kernel)
set_option maxRecDepth 20000 in
theorem dk_177 : dkP 177 := dk_of (by decide +kernel)
set_option maxRecDepth 20000 in
theorem dk_178 : dkP 178 := dk_of (by decide +kernel)
set_option maxRecDepth 20000 in
theorem dk_179 : dkP 179 := dk_of (by decide +kernel)
set_option maxRecDepth 20000 in
theorem dk_180 : dkP 180 := dk_of (by decide +kernel)
set_option maxRecDepth 20000 in
theorem dk_181 : dkP 181 := dk_of (by decide +kernel)
set_option maxRecDepth 20000 in
theorem dk_182 : dkP 182 := dk_of (by decide +kernel)
set_option maxRecDepth 20000 in
theorem dk_183 : dkP 183 := dk_of (by decide +kernel)
set_option maxRecDepth 20000 in
theorem dk_184 : dkP 184 := dk_of (by decide +kernel)
set_option maxRecDepth 20000 in
theorem dk_185 : dkP 185 := dk_of (by decide +kernel)
set_option maxRecDepth 20000 in
theorem dk_186 : dkP 186 := dk_of (by decide +kernel)
set_option maxRecDepth 20000 in
theorem dk_187 : dkP 187 := dk_of (by decide +kernel)
set_option maxRecDepth 20000 in
theorem dk_188 : dkP 188 := dk_of (by decide +kernel)
set_option maxRecDepth 20000 in
theorem dk_189 : dkP 189 := dk_of (by decide +kernel)
theorem dkA_0 : ∀ a, a < 10 → dkP a := (lt_s (lt_s (lt_s (lt_s (lt_s (lt_s (lt_s (lt_s (lt_s (lt_s (lt_0 (p := dkP)) dk_0) dk_1) dk_2) dk_3) dk_4) dk_5) dk_6) dk_7) dk_8) dk_9)
theorem dkA_1 : ∀ a, a < 20 → dkP a := (lt_s (lt_s (lt_s (lt_s (lt_s (lt_s (lt_s (lt_s (lt_s (lt_s dkA_0 dk_10) dk_11) dk_12) dk_13) dk_14) dk_15) dk_16) dk_17) dk_18) dk_19)
theorem dkA_2 : ∀ a, a < 30 → dkP a := (lt_s (lt_s (lt_s (lt_s (lt_s (lt_s (lt_s (lt_s (lt_s (lt_s dkA_1 dk_20) dk_21) dk_22) dk_23) dk_24) dk_25) dk_26) dk_27) dk_28) dk_29)
theorem dkA_3 : ∀ a, a < 40 → dkP a := (lt_s (lt_s (lt_s (lt_s (lt_s (lt_s (lt_s (lt_s (lt_s (lt_s dkA_2 dk_30) dk_31) dk_32) dk_33) dk_34) dk_35) dk_36) dk_37) dk_38) dk_39)
theorem dkA_4 : ∀ a, a < 50 → dkP a := (lt_s (lt_s (lt_s (lt_s (lt_s (lt_s (lt_s (lt_s (lt_s (lt_s dkA_3 dk_40) dk_41) dk_42) dk_43) dk_44) dk_45) dk_46) dk_47) dk_48) dk_49)
theorem dkA_5 : ∀ a, a < 60 → dkP a := (lt_s (lt_s (lt_s (lt_s (lt_s (lt_s (lt_s (lt_s (lt_s (lt_s dkA_4 dk_50) dk_51) dk_52) dk_53) dk_54) dk_55) dk_56) dk_57) dk_58) dk_59)
theorem dkA_6 : ∀ a, a < 70 → dkP a := (lt_s (lt_s (lt_s (lt_s (lt_s (lt_s (lt_s (lt_s (lt_s (lt_s dkA_5 dk_60) dk_61) dk_62) dk_63) dk_64) dk_65) dk_66) dk_67) dk_68) dk_69)
theorem dkA_7 : ∀ a, a < 80 → dkP a := (lt_s (lt_s (lt_s (lt_s (lt_s (lt_s (lt_s (lt_s (lt_s (lt_s dkA_6 dk_70) dk_71) dk_72) dk_73) dk_74) dk_75) dk_76) dk_77) dk_78) dk_79)
theorem dkA_8 : ∀ a, a < 90 → dkP a := (lt_s (lt_s (lt_s (lt_s (lt_s (lt_s (lt_s (lt_s (lt_s (lt_s dkA_7 dk_80) dk_81) dk_82) dk_83) dk_84) dk_85) dk_86) dk_87) dk_88) dk_89)
theorem dkA_9 : ∀ a, a < 100 → dkP a := (lt_s (lt_s (lt_s (lt_s (lt_s (lt_s (lt_s (lt_s (lt_s (lt_s dkA_8 dk_90) dk_91) dk_92) dk_93) dk_94) dk_95) dk_96) dk_97) dk_98) dk_99)
theorem dkA_10 : ∀ a, a < 110 → dkP a := (lt_s (lt_s (lt_s (lt_s (lt_s (lt_s (lt_s (lt_s (lt_s (lt_s dkA_9 dk_100) dk_101) dk_102) dk_103) dk_104) dk_105) dk_106) dk_107) dk_108) dk_109)
theorem dkA_11 : ∀ a, a < 120 → dkP a := (lt_s (lt_s (lt_s (lt_s (lt_s (lt_s (lt_s (lt_s (lt_s (lt_s dkA_10 dk_110) dk_111) dk_112) dk_113) dk_114) dk_115) dk_116) dk_117) dk_118) dk_119)
theorem dkA_12 : ∀ a, a < 130 → dkP a := (lt_s (lt_s (lt_s (lt_s (lt_s (lt_s (lt_s (lt_s (lt_s (lt_s dkA_11 dk_120) dk_121) dk_122) dk_123) dk_124) dk_125) dk_126) dk_127) dk_128) dk_129)
theorem dkA_13 : ∀ a, a < 140 → dkP a := (lt_s (lt_s (lt_s (lt_s (lt_s (lt_s (lt_s (lt_s (lt_s (lt_s dkA_12 dk_130) dk_131) dk_132) dk_133) dk_134) dk_135) dk_136) dk_137) dk_138) dk_139)
theorem dkA_14 : ∀ a, a < 150 → dkP a := (lt_s (lt_s (lt_s (lt_s (lt_s (lt_s (lt_s (lt_s (lt_s (lt_s dkA_13 dk_140) dk_141) dk_142) dk_143) dk_144) dk_145) dk_146) dk_147) dk_148) dk_149)
theorem dkA_15 : ∀ a, a < 160 → dkP a := (lt_s (lt_s (lt_s (lt_s (lt_s (lt_s (lt_s (lt_s (lt_s (lt_s dkA_14 dk_150) dk_151) dk_152) dk_153) dk_154) dk_155) dk_156) dk_157) dk_158) dk_159)
theorem dkA_16 : ∀ a, a < 170 → dkP a := (lt_s (lt_s (lt_s (lt_s (lt_s (lt_s (lt_s (lt_s (lt_s (lt_s dkA_15 dk_160) dk_161) dk_162) dk_163) dk_164) dk_165) dk_166) dk_167) dk_168) dk_169)
theorem dkA_17 : ∀ a, a < 180 → dkP a := (lt_s (lt_s (lt_s (lt_s (lt_s (lt_s (lt_s (lt_s (lt_s (lt_s dkA_16 dk_170) dk_171) dk_172) dk_173) dk_174) dk_175) dk_176) dk_177) dk_178) dk_179)
theorem dkA_18 : ∀ a, a < 190 → dkP a := (lt_s (lt_s (lt_s (lt_s (lt_s (lt_s (lt_s (lt_s (lt_s (lt_s dkA_17 dk_180) dk_181) dk_182) dk_183) dk_184) dk_185) dk_186) dk_187) dk_188) dk_189)
theorem ckP_app {y : Nat} : ∀ (a b : List (Option RI)) (k : Nat), ckP y k a = true → ckP y (k + a.length) b = true → ckP y k (a ++ b) = true := by
  intro a
  induction a with
  | nil => intro b k _ h; simpa using h
  | cons o a ih =>
    intro b k h1 h2
    rw [ckP, Bool.and_eq_true] at h1
    rw [List.cons_append, ckP, Bool.and_eq_true]
    exact ⟨h1.1, ih b (k + 1) h1.2 (by rw [List.length_cons] at h2; rwa [show k + 1 + a.length = k + (a.length + 1) by omega])⟩
end
section
/-! THE LAW'S CODE -/
set_option maxRecDepth 20000 in
theorem dkL_0 : ckP 190 0 tb_190_0 = true := dl_of (by decide +kernel)
set_option maxRecDepth 20000 in
theorem dkL_1 : ckP 190 128 tb_190_1 = true := dl_of (by decide +kernel)
set_option maxRecDepth 20000 in
theorem dkL_2 : ckP 190 256 tb_190_2 = true := dl_of (by decide +kernel)
set_option maxRecDepth 20000 in
theorem dkL_3 : ckP 190 384 tb_190_3 = true := dl_of (by decide +kernel)
set_option maxRecDepth 20000 in
theorem dkL_4 : ckP 190 512 tb_190_4 = true := dl_of (by decide +kernel)
set_option maxRecDepth 20000 in
theorem dkL_5 : ckP 190 640 tb_190_5 = true := dl_of (by decide +kernel)
end
section
/-! THE LAW'S CODE, its second half -/
set_option maxRecDepth 20000 in
theorem dkL_6 : ckP 190 768 tb_190_6 = true := dl_of (by decide +kernel)
set_option maxRecDepth 20000 in
theorem dkL_7 : ckP 190 896 tb_190_7 = true := dl_of (by decide +kernel)
set_option maxRecDepth 20000 in
theorem dkL_8 : ckP 190 1024 tb_190_8 = true := dl_of (by decide +kernel)
set_option maxRecDepth 20000 in
theorem dkL_9 : ckP 190 1152 tb_190_9 = true := dl_of (by decide +kernel)
set_option maxRecDepth 20000 in
theorem dkL_10 : ckP 190 1280 tb_190_10 = true := dl_of (by decide +kernel)
set_option maxRecDepth 20000 in
theorem dkL_11 : ckP 190 1408 tb_190_11 = true := dl_of (by decide +kernel)
end
section
/-! ALL CODE -/
theorem ckP_app2 {y k n k2 : Nat} {a b : List (Option RI)} (hl : a.length = n) (hk : k + n = k2) (h1 : ckP y k a = true) (h2 : ckP y k2 b = true) : ckP y k (a ++ b) = true := by
  subst hl
  subst hk
  exact ckP_app a b k h1 h2
theorem ln_0 : tb_190_0.length = 128 := by decide +kernel
theorem ln_1 : tb_190_1.length = 128 := by decide +kernel
theorem ln_2 : tb_190_2.length = 128 := by decide +kernel
theorem ln_3 : tb_190_3.length = 128 := by decide +kernel
theorem ln_4 : tb_190_4.length = 128 := by decide +kernel
theorem ln_5 : tb_190_5.length = 128 := by decide +kernel
theorem ln_6 : tb_190_6.length = 128 := by decide +kernel
theorem ln_7 : tb_190_7.length = 128 := by decide +kernel
theorem ln_8 : tb_190_8.length = 128 := by decide +kernel
theorem ln_9 : tb_190_9.length = 128 := by decide +kernel
theorem ln_10 : tb_190_10.length = 128 := by decide +kernel
theorem dkR_11 : ckP 190 1408 tb_190_11 = true := dkL_11
theorem dkR_10 : ckP 190 1280 (tb_190_10 ++ (tb_190_11)) = true := ckP_app2 ln_10 rfl dkL_10 dkR_11
theorem dkR_9 : ckP 190 1152 (tb_190_9 ++ (tb_190_10 ++ (tb_190_11))) = true := ckP_app2 ln_9 rfl dkL_9 dkR_10
theorem dkR_8 : ckP 190 1024 (tb_190_8 ++ (tb_190_9 ++ (tb_190_10 ++ (tb_190_11)))) = true := ckP_app2 ln_8 rfl dkL_8 dkR_9
theorem dkR_7 : ckP 190 896 (tb_190_7 ++ (tb_190_8 ++ (tb_190_9 ++ (tb_190_10 ++ (tb_190_11))))) = true := ckP_app2 ln_7 rfl dkL_7 dkR_8
theorem dkR_6 : ckP 190 768 (tb_190_6 ++ (tb_190_7 ++ (tb_190_8 ++ (tb_190_9 ++ (tb_190_10 ++ (tb_190_11)))))) = true := ckP_app2 ln_6 rfl dkL_6 dkR_7
theorem dkR_5 : ckP 190 640 (tb_190_5 ++ (tb_190_6 ++ (tb_190_7 ++ (tb_190_8 ++ (tb_190_9 ++ (tb_190_10 ++ (tb_190_11))))))) = true := ckP_app2 ln_5 rfl dkL_5 dkR_6
theorem dkR_4 : ckP 190 512 (tb_190_4 ++ (tb_190_5 ++ (tb_190_6 ++ (tb_190_7 ++ (tb_190_8 ++ (tb_190_9 ++ (tb_190_10 ++ (tb_190_11)))))))) = true := ckP_app2 ln_4 rfl dkL_4 dkR_5
theorem dkR_3 : ckP 190 384 (tb_190_3 ++ (tb_190_4 ++ (tb_190_5 ++ (tb_190_6 ++ (tb_190_7 ++ (tb_190_8 ++ (tb_190_9 ++ (tb_190_10 ++ (tb_190_11))))))))) = true := ckP_app2 ln_3 rfl dkL_3 dkR_4
theorem dkR_2 : ckP 190 256 (tb_190_2 ++ (tb_190_3 ++ (tb_190_4 ++ (tb_190_5 ++ (tb_190_6 ++ (tb_190_7 ++ (tb_190_8 ++ (tb_190_9 ++ (tb_190_10 ++ (tb_190_11)))))))))) = true := ckP_app2 ln_2 rfl dkL_2 dkR_3
theorem dkR_1 : ckP 190 128 (tb_190_1 ++ (tb_190_2 ++ (tb_190_3 ++ (tb_190_4 ++ (tb_190_5 ++ (tb_190_6 ++ (tb_190_7 ++ (tb_190_8 ++ (tb_190_9 ++ (tb_190_10 ++ (tb_190_11))))))))))) = true := ckP_app2 ln_1 rfl dkL_1 dkR_2
theorem dkR_0 : ckP 190 0 (tb_190_0 ++ (tb_190_1 ++ (tb_190_2 ++ (tb_190_3 ++ (tb_190_4 ++ (tb_190_5 ++ (tb_190_6 ++ (tb_190_7 ++ (tb_190_8 ++ (tb_190_9 ++ (tb_190_10 ++ (tb_190_11)))))))))))) = true := ckP_app2 ln_0 rfl dkL_0 dkR_1
theorem dk_190 : dkP 190 := dkR_0
theorem dkA_19 : ∀ a, a < 191 → dkP a := (lt_s dkA_18 dk_190)
theorem allT_len : allT.length = 191 := by decide +kernel
theorem smI_ok {y pc : Nat} {r : RI} (h : smI y pc = some r) : decode (mCd y) pc = .ok (r.1, r.2.1 - pc) ∧ okR y pc r = true := by
  by_cases hy : y < 191
  · have h1 := ckP_e (allT.getD y []) 0 pc r (dkA_19 y hy) h
    simpa using h1
  · unfold smI at h
    rw [List.getD_eq_getElem?_getD (l := allT), List.getElem?_eq_none (by rw [allT_len]; exact Nat.not_lt.mp hy)] at h
    simp at h
end
