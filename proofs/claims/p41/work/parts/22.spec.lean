section
/-! WHAT THE CALLS GIVE, in numbers: faces, steps, sets -/
def heldF (v most : Int32) : Int32 := if v.toInt < 0 then 0 else if most.toInt < v.toInt then most else v
abbrev LF : Type := Int32 → Int32 → Int32 → Int32
/-- a table's words: 0 the object's own, 1 fill, 2 kind, 3 m, 4 hunger, 5 sham, 6 had, 7 gone, 8 faces -/
def vw (m : MW) (t : Nat) : MW := fun j => m (j + 1 + 9 * t)
def faceV (v : Int32) (X : MW) (i : Nat) : Int32 :=
  if X 2 i = 1 then v + X 5 i + X 3 i
  else if X 2 i = 2 then v / 2 + X 5 i
  else if X 2 i = 3 then v + X 5 i - X 4 i / 2
  else if X 2 i = 4 then v + X 5 i + X 3 i - 20
  else if X 2 i = 5 then v / 2 + X 5 i + (if 0 < (X 6 i).toInt then 9 else 0)
  else if X 2 i = 6 then v + 2 * X 5 i - X 4 i / 2
  else v + X 5 i
def faceF (LK : LF) (X : MW) (i : Nat) : Int32 := faceV (LK (X 4 i) (X 6 i) (X 0 9 - X 0 9 / 16 * 16)) X i
def growsF (X : MW) (i : Nat) : Int32 :=
  if X 2 i = 1 ∨ X 2 i = 4 then 0 else if X 2 i = 2 ∨ X 2 i = 5 then 2 else if X 2 i = 3 ∨ X 2 i = 6 then 1 + (X 3 i - X 3 i / 3 * 3) else 1
def cntF (p : Nat → Bool) : Nat → Nat
  | 0 => 0
  | n + 1 => cntF p n + (if p n = true then 1 else 0)
def bitsF (p : Nat → Bool) : Nat → Nat
  | 0 => 0
  | n + 1 => bitsF p n + (if p n = true then 2 ^ n else 0)
def isAhead (F G : Nat → Int32) (i o : Nat) : Bool := decide (((F i).toInt < (F o).toInt ∨ ((F o).toInt = (F i).toInt ∧ o < i)) ∧ (G o).toInt = 0)
def aheadF (F G : Nat → Int32) (n i : Nat) : Nat := cntF (isAhead F G i) n
def isServed (F G : Nat → Int32) (n : Nat) (W : Int32) (i : Nat) : Bool := decide ((G i).toInt = 0 ∧ (aheadF F G n i : Int) < W.toInt)
def nOf (X : MW) : Nat := (X 0 10).toNatClampNeg
def svF (LK : LF) (X : MW) (i : Nat) : Bool := isServed (faceF LK X) (X 7) (nOf X) (X 0 8) i
def setF (LK : LF) (X : MW) : Nat := bitsF (svF LK X) (nOf X)
def hungF (sv : Bool) (X : MW) (i : Nat) : Int32 := if sv = true then heldF (X 4 i - X 1 ((X 6 i).toNatClampNeg % 8)) 99 else heldF (X 4 i + growsF X i) 99
def hadF (sv : Bool) (X : MW) (i : Nat) : Int32 := if sv = true then heldF (X 6 i + 1) 99 else X 6 i
def ateF (sv : Bool) (X : MW) (i : Nat) : MW := upm (upm X 4 i (hungF sv X i)) 6 i (hadF sv X i)
def goneF (LK BL : LF) (X : MW) (i : Nat) : Int32 := if (BL (X 4 i) (faceF LK X i) (X 6 i)).toInt = 0 then 0 else 1
/-- one diner's part of a step -/
def passF (LK BL : LF) (sv : Bool) (X : MW) (i : Nat) : MW := upm (ateF sv X i) 7 i (goneF LK BL (ateF sv X i) i)
/-- the first k diners' parts, those who were served told ahead -/
def passN (LK BL : LF) (sv : Nat → Bool) (X : MW) : Nat → MW
  | 0 => X
  | k + 1 => if (X 7 k).toInt = 0 then passF LK BL (sv k) (passN LK BL sv X k) k else passN LK BL sv X k
def stepF (LK BL : LF) (X : MW) : MW := upm (passN LK BL (svF LK X) X (nOf X)) 0 9 (X 0 9 + 1)
def stepN (LK BL : LF) (X : MW) : Nat → MW
  | 0 => X
  | k + 1 => stepF LK BL (stepN LK BL X k)
def leI (x : Int32) (b : Nat) : Prop := ∃ c : Nat, c ≤ b ∧ x = nI c
/-- a table's words are in their bounds -/
def WF (X : MW) : Prop := leI (X 0 10) 8 ∧ (∃ w, 1 ≤ w ∧ w ≤ 4 ∧ X 0 8 = nI w) ∧ ∀ i, i < 8 → leI (X 1 i) 30 ∧ leI (X 2 i) 6 ∧ leI (X 3 i) 9 ∧ leI (X 4 i) 99 ∧ leI (X 5 i) 9 ∧ leI (X 6 i) 99 ∧ (X 7 i = 0 ∨ X 7 i = 1)
/-- a law's codes worked out over a stack -/
def evI (a b c k : Int32) (s : List Int32) : Option (List Int32) :=
  if k = 0 then some (a :: s) else if k = 1 then some (b :: s) else if k = 2 then some (c :: s)
  else if 1000 ≤ k.toInt ∨ k.toInt < 0 then some ((k - 1000) :: s)
  else if k = 33 then (match s with
    | p :: r => some ((if p.toInt = 0 then 1 else 0) :: r)
    | _ => none)
  else match s with
    | q :: p :: r => if k = 43 then some ((p + q) :: r) else if k = 45 then some ((p - q) :: r) else if k = 42 then some ((p * q) :: r)
      else if k = 47 then some ((if q.toInt = 0 then 0 else p / q) :: r) else if k = 37 then some ((if q.toInt = 0 then 0 else p - p / q * q) :: r)
      else if k = 60 then some ((if p.toInt < q.toInt then 1 else 0) :: r) else if k = 61 then some ((if p.toInt = q.toInt then 1 else 0) :: r) else if k = 62 then some ((if q.toInt < p.toInt then 1 else 0) :: r)
      else if k = 38 then some ((if p.toInt ≠ 0 ∧ q.toInt ≠ 0 then 1 else 0) :: r) else if k = 124 then some ((if p.toInt ≠ 0 ∨ q.toInt ≠ 0 then 1 else 0) :: r) else none
    | _ => none
section
variable {a b c p q : Int32} {s r : List Int32}
theorem ev_0 : evI a b c 0 s = some (a :: s) := rfl
theorem ev_1 : evI a b c 1 s = some (b :: s) := rfl
theorem ev_2 : evI a b c 2 s = some (c :: s) := rfl
theorem ev_n {k : Int32} (h0 : ¬ k = 0) (h1 : ¬ k = 1) (h2 : ¬ k = 2) (h : 1000 ≤ k.toInt ∨ k.toInt < 0) : evI a b c k s = some ((k - 1000) :: s) := by
  unfold evI
  rw [if_neg h0, if_neg h1, if_neg h2, if_pos h]
theorem ev_33 : evI a b c 33 (p :: r) = some ((if p.toInt = 0 then 1 else 0) :: r) := rfl
theorem ev_43 : evI a b c 43 (q :: p :: r) = some ((p + q) :: r) := rfl
theorem ev_45 : evI a b c 45 (q :: p :: r) = some ((p - q) :: r) := rfl
theorem ev_42 : evI a b c 42 (q :: p :: r) = some ((p * q) :: r) := rfl
theorem ev_47 : evI a b c 47 (q :: p :: r) = some ((if q.toInt = 0 then 0 else p / q) :: r) := rfl
theorem ev_37 : evI a b c 37 (q :: p :: r) = some ((if q.toInt = 0 then 0 else p - p / q * q) :: r) := rfl
theorem ev_60 : evI a b c 60 (q :: p :: r) = some ((if p.toInt < q.toInt then 1 else 0) :: r) := rfl
theorem ev_61 : evI a b c 61 (q :: p :: r) = some ((if p.toInt = q.toInt then 1 else 0) :: r) := rfl
theorem ev_62 : evI a b c 62 (q :: p :: r) = some ((if q.toInt < p.toInt then 1 else 0) :: r) := rfl
theorem ev_38 : evI a b c 38 (q :: p :: r) = some ((if p.toInt ≠ 0 ∧ q.toInt ≠ 0 then 1 else 0) :: r) := rfl
theorem ev_124 : evI a b c 124 (q :: p :: r) = some ((if p.toInt ≠ 0 ∨ q.toInt ≠ 0 then 1 else 0) :: r) := rfl
theorem ev_x {k : Int32} (h0 : ¬ k = 0) (h1 : ¬ k = 1) (h2 : ¬ k = 2) (h : ¬ (1000 ≤ k.toInt ∨ k.toInt < 0)) (h33 : ¬ k = 33) (h43 : ¬ k = 43) (h45 : ¬ k = 45) (h42 : ¬ k = 42) (h47 : ¬ k = 47) (h37 : ¬ k = 37) (h60 : ¬ k = 60) (h61 : ¬ k = 61) (h62 : ¬ k = 62) (h38 : ¬ k = 38) (h124 : ¬ k = 124) : evI a b c k s = none := by
  unfold evI
  rw [if_neg h0, if_neg h1, if_neg h2, if_neg h, if_neg h33]
  split
  · rw [if_neg h43, if_neg h45, if_neg h42, if_neg h47, if_neg h37, if_neg h60, if_neg h61, if_neg h62, if_neg h38, if_neg h124]
  · rfl
end
def evS (a b c : Int32) : List Int32 → List Int32 → Option (List Int32)
  | [], s => some s
  | k :: ks, s => (evI a b c k s).bind (evS a b c ks)
def codL (m : MW) (ln : Nat → Nat) (i : Nat) : List Int32 := (List.range (ln i)).map (m (70 + 3 * i))
/-- codes that give one number, whatever stands below -/
def CodeOk (cs : List Int32) : Prop := ∀ a b c, ∃ v, ∀ s, evS a b c cs s = some (v :: s)
def valL (cs : List Int32) (a b c : Int32) : Int32 := ((evS a b c cs []).getD []).headD 0
def lval (m : MW) (ln : Nat → Nat) (x : Int32) : LF := valL (codL m ln (x.toNatClampNeg - 1))
def lkF (m : MW) (ln : Nat → Nat) (x : Int32) : LF := fun h c s => heldF (if x = 0 then c + 9 - h / 9 else lval m ln x h c s) 99
def blF (m : MW) (ln : Nat → Nat) (x : Int32) : LF := fun h f c => if x = 0 then 0 else heldF (lval m ln x h f c) 1
/-- the laws' codes are well made; a law's number in a table is 0 or one of them -/
def LawsOk (m : MW) (ln : Nat → Nat) (N : Nat) : Prop := N ≤ 600 ∧ ∀ i, i < N → ln i ≤ 50 ∧ CodeOk (codL m ln i)
def LawIx (N : Nat) (x : Int32) : Prop := x = 0 ∨ ∃ i, i < N ∧ x = nI (i + 1)
def minor (k j : Nat) : Prop := (69 ≤ k ∧ (k - 69) % 3 = 2) ∨ (k = 57 ∧ 7 ≤ j ∧ j ≤ 14)
/-- alike but for what is only written to be read at once: the laws' worths, the reference's walker -/
def EqM (m m2 : MW) : Prop := ∀ k j, ¬ minor k j → m2 k j = m k j
theorem EqM.rf {m : MW} : EqM m m := fun _ _ _ => rfl
theorem EqM.tr {m m2 m3 : MW} (h : EqM m m2) (h2 : EqM m2 m3) : EqM m m3 := fun k j q => (h2 k j q).trans (h k j q)
theorem EqM.up {m m2 : MW} (h : EqM m m2) (k j : Nat) (x : Int32) : EqM (upm m k j x) (upm m2 k j x) := by
  intro k2 j2 q
  unfold upm
  by_cases e : k2 = k ∧ j2 = j
  · rw [if_pos e, if_pos e]
  · rw [if_neg e, if_neg e, h k2 j2 q]
theorem EqM.at {m m2 : MW} (h : EqM m m2) {k : Nat} (j : Nat) (hk : k < 57) : m2 k j = m k j := h k j (fun q => by rcases q with q | q <;> omega)
theorem EqM.at2 {m m2 : MW} (h : EqM m m2) {k : Nat} (j : Nat) (hk : k < 69) (h7 : k ≠ 57) : m2 k j = m k j := h k j (fun q => by rcases q with q | q <;> omega)
theorem EqM.fld {m m2 : MW} (h : EqM m m2) {j : Nat} (hj : j < 7 ∨ 14 < j) : m2 57 j = m 57 j := h 57 j (fun q => by rcases q with q | q <;> omega)
theorem EqM.vw {m m2 : MW} (h : EqM m m2) {t : Nat} (ht : t < 4) {j : Nat} (hj : j < 9) (i : Nat) : vw m2 t j i = vw m t j i := h.at i (by omega)
theorem EqM.cod {m m2 : MW} (h : EqM m m2) (ln : Nat → Nat) (i : Nat) : codL m2 ln i = codL m ln i := by
  unfold codL
  apply List.map_congr_left
  intro j _
  exact h _ _ (fun q => by rcases q with q | q <;> omega)
theorem EqM.lk {m m2 : MW} (h : EqM m m2) (ln : Nat → Nat) (x : Int32) : lkF m2 ln x = lkF m ln x := by
  unfold lkF lval
  rw [h.cod]
theorem EqM.bl {m m2 : MW} (h : EqM m m2) (ln : Nat → Nat) (x : Int32) : blF m2 ln x = blF m ln x := by
  unfold blF lval
  rw [h.cod]
theorem EqM.laws {m m2 : MW} (h : EqM m m2) {ln : Nat → Nat} {N : Nat} (q : LawsOk m ln N) : LawsOk m2 ln N := ⟨q.1, fun i hi => by
  rw [h.cod]
  exact q.2 i hi⟩
theorem faceF_c {LK : LF} {X Y : MW} {i : Nat} (h : ∀ j, 2 ≤ j → j ≤ 6 → Y j i = X j i) (h0 : Y 0 9 = X 0 9) : faceF LK Y i = faceF LK X i := by
  unfold faceF faceV
  rw [h 2 (by omega) (by omega), h 3 (by omega) (by omega), h 4 (by omega) (by omega), h 5 (by omega) (by omega), h 6 (by omega) (by omega), h0]
/-- table t put in place: the words X, all else as m -/
def putT (m : MW) (t : Nat) (X : MW) : MW := fun k j => if 1 + 9 * t ≤ k ∧ k < 10 + 9 * t then X (k - (1 + 9 * t)) j else m k j
def AtX (m : MW) (t : Nat) (X m2 : MW) : Prop := EqM (putT m t X) m2
theorem AtX.rd {m : MW} {t : Nat} {X m2 : MW} (h : AtX m t X m2) (ht : t < 4) {j i : Nat} (hj : j < 9) : m2 (j + 1 + 9 * t) i = X j i := by
  rw [EqM.at h i (by omega)]
  unfold putT
  rw [if_pos (by omega), show j + 1 + 9 * t - (1 + 9 * t) = j by omega]
theorem AtX.up {m : MW} {t : Nat} {X m2 : MW} (h : AtX m t X m2) (ht : t < 4) {j : Nat} (hj : j < 9) (i : Nat) (x : Int32) : AtX m t (upm X j i x) (upm m2 (j + 1 + 9 * t) i x) := by
  have e : putT m t (upm X j i x) = upm (putT m t X) (j + 1 + 9 * t) i x := by
    funext k2 j2
    unfold putT upm
    by_cases h1 : 1 + 9 * t ≤ k2 ∧ k2 < 10 + 9 * t
    · simp only [h1, and_self, if_true]
      by_cases h2 : k2 = j + 1 + 9 * t
      · subst h2
        simp [show j + 1 + 9 * t - (1 + 9 * t) = j by omega]
      · have h3 : ¬ k2 - (1 + 9 * t) = j := by omega
        simp [h2, h3]
    · have h2 : ¬ k2 = j + 1 + 9 * t := by omega
      simp [h1, h2]
  unfold AtX
  rw [e]
  exact EqM.up h _ _ _
theorem AtX.self (m : MW) (t : Nat) : AtX m t (vw m t) m := by
  intro k j q
  unfold putT vw
  by_cases h1 : 1 + 9 * t ≤ k ∧ k < 10 + 9 * t
  · rw [if_pos h1, show k - (1 + 9 * t) + 1 + 9 * t = k by omega]
  · rw [if_neg h1]
theorem AtX.eqm {m : MW} {t : Nat} {X m2 m3 : MW} (h : AtX m t X m2) (h2 : EqM m2 m3) : AtX m t X m3 := EqM.tr h h2
theorem AtX.c {m : MW} {t : Nat} {X Y m2 : MW} (h : AtX m t X m2) (e : ∀ j i, j < 9 → Y j i = X j i) : AtX m t Y m2 := by
  intro k j q
  rw [h k j q]
  unfold putT
  by_cases h1 : 1 + 9 * t ≤ k ∧ k < 10 + 9 * t
  · rw [if_pos h1, if_pos h1, e _ _ (by omega)]
  · rw [if_neg h1, if_neg h1]
theorem AtX.out {m : MW} {t : Nat} {X m2 : MW} (h : AtX m t X m2) {k j : Nat} (hk : ¬ (1 + 9 * t ≤ k ∧ k < 10 + 9 * t)) (hq : ¬ minor k j) : m2 k j = m k j := by
  rw [h k j hq]
  unfold putT
  rw [if_neg hk]
theorem AtX.cod {m : MW} {t : Nat} {X m2 : MW} (h : AtX m t X m2) (ht : t < 4) (ln : Nat → Nat) (i : Nat) : codL m2 ln i = codL m ln i := by
  unfold codL
  apply List.map_congr_left
  intro j _
  exact h.out (by omega) (fun q => by rcases q with q | q <;> omega)
theorem lawV_ix {x : Int32} {i : Nat} (hx : x = nI (i + 1)) (hi : i < 2 ^ 30) : lawV x = .ref (101 + 3 * i) ∧ ¬ x = 0 ∧ x.toNatClampNeg - 1 = i := by
  subst hx
  have h1 : (nI (i + 1)).toNatClampNeg = i + 1 := nI_clamp (by omega)
  have h2 : ¬ nI (i + 1) = 0 := nI_ne0 (by omega) (by omega)
  refine ⟨?_, h2, by omega⟩
  rw [lawV_ne h2, h1]
  exact congrArg Value.ref (show 98 + 3 * (i + 1) = 101 + 3 * i by omega)
theorem fk_0 {v : Int32} {X : MW} {i : Nat} (h : X 2 i = nI 0) : faceV v X i = v + X 5 i := by
  unfold faceV
  rw [h]
  rfl
theorem fk_1 {v : Int32} {X : MW} {i : Nat} (h : X 2 i = nI 1) : faceV v X i = v + X 5 i + X 3 i := by
  unfold faceV
  rw [h]
  rfl
theorem fk_2 {v : Int32} {X : MW} {i : Nat} (h : X 2 i = nI 2) : faceV v X i = v / 2 + X 5 i := by
  unfold faceV
  rw [h]
  rfl
theorem fk_3 {v : Int32} {X : MW} {i : Nat} (h : X 2 i = nI 3) : faceV v X i = v + X 5 i - X 4 i / 2 := by
  unfold faceV
  rw [h]
  rfl
theorem fk_4 {v : Int32} {X : MW} {i : Nat} (h : X 2 i = nI 4) : faceV v X i = v + X 5 i + X 3 i - 20 := by
  unfold faceV
  rw [h]
  rfl
theorem fk_5 {v : Int32} {X : MW} {i : Nat} (h : X 2 i = nI 5) : faceV v X i = v / 2 + X 5 i + (if 0 < (X 6 i).toInt then 9 else 0) := by
  unfold faceV
  rw [h]
  rfl
theorem fk_6 {v : Int32} {X : MW} {i : Nat} (h : X 2 i = nI 6) : faceV v X i = v + 2 * X 5 i - X 4 i / 2 := by
  unfold faceV
  rw [h]
  rfl
theorem gk {X : MW} {i k : Nat} (h : X 2 i = nI k) (hk : k ≤ 6) : growsF X i = if k = 1 ∨ k = 4 then 0 else if k = 2 ∨ k = 5 then 2 else if k = 3 ∨ k = 6 then 1 + (X 3 i - X 3 i / 3 * 3) else 1 := by
  unfold growsF
  rw [h]
  rcases (show k = 0 ∨ k = 1 ∨ k = 2 ∨ k = 3 ∨ k = 4 ∨ k = 5 ∨ k = 6 by omega) with rfl | rfl | rfl | rfl | rfl | rfl | rfl <;> rfl
def Eq8 (X Y : MW) : Prop := ∀ j, j < 8 → ∀ i, Y j i = X j i
theorem Eq8.rf {X : MW} : Eq8 X X := fun _ _ _ => rfl
theorem Eq8.tr {X Y Z : MW} (h : Eq8 X Y) (h2 : Eq8 Y Z) : Eq8 X Z := fun j hj i => (h2 j hj i).trans (h j hj i)
theorem Eq8.up {X Y : MW} (h : Eq8 X Y) (j i : Nat) (x : Int32) : Eq8 (upm X j i x) (upm Y j i x) := by
  intro j2 h2 i2
  unfold upm
  by_cases e : j2 = j ∧ i2 = i
  · rw [if_pos e, if_pos e]
  · rw [if_neg e, if_neg e, h j2 h2 i2]
theorem WF_c {X Y : MW} (h : Eq8 X Y) (w : WF X) : WF Y := by
  refine ⟨?_, ?_, fun i hi => ?_⟩
  · rw [h 0 (by decide)]
    exact w.1
  · rw [h 0 (by decide)]
    exact w.2.1
  · rw [h 1 (by decide), h 2 (by decide), h 3 (by decide), h 4 (by decide), h 5 (by decide), h 6 (by decide), h 7 (by decide)]
    exact w.2.2 i hi
theorem max_h {v : Int32} (h : v.toInt ≤ 99) : (if (0 : Int32) < v then v else 0) = heldF v 99 := by
  have e0 : (0 : Int32).toInt = 0 := rfl
  have e9 : (99 : Int32).toInt = 99 := rfl
  by_cases h0 : v.toInt < 0
  · have e : heldF v 99 = 0 := by
      unfold heldF
      rw [if_pos h0]
    rw [e]
    exact if_neg (fun q => by have := (lt_k e0 rfl).mp q; omega)
  · have e : heldF v 99 = v := by
      unfold heldF
      rw [if_neg h0, if_neg (by omega)]
    rw [e]
    by_cases h1 : (0 : Int32) < v
    · exact if_pos h1
    · rw [if_neg h1]
      apply Int32.toInt_inj.mp
      have h2 : ¬ 0 < v.toInt := fun q => h1 ((lt_k e0 rfl).mpr q)
      rw [e0]
      omega
theorem min_h {v : Int32} (h : 0 ≤ v.toInt) : (if v < 99 then v else 99) = heldF v 99 := by
  have e9 : (99 : Int32).toInt = 99 := rfl
  by_cases h1 : v < 99
  · have h2 := (lt_k rfl e9).mp h1
    have e : heldF v 99 = v := by
      unfold heldF
      rw [if_neg (by omega), if_neg (by omega)]
    rw [e]
    exact if_pos h1
  · have h2 : ¬ v.toInt < 99 := fun q => h1 ((lt_k rfl e9).mpr q)
    rw [if_neg h1]
    unfold heldF
    rw [if_neg (by omega)]
    by_cases h3 : (99 : Int32).toInt < v.toInt
    · rw [if_pos h3]
    · rw [if_neg h3]
      apply Int32.toInt_inj.mp
      omega
theorem leI_t {x : Int32} {b : Nat} (h : leI x b) (hb : b < 1000) : 0 ≤ x.toInt ∧ x.toInt ≤ b := by
  obtain ⟨c, hc, rfl⟩ := h
  rw [nI_toInt (by omega)]
  omega
theorem leI_of {x : Int32} {b : Nat} (h0 : 0 ≤ x.toInt) (h1 : x.toInt ≤ b) : leI x b := by
  obtain ⟨j, ⟨_, h2⟩, h3⟩ := nat_of (x := x) (lo := 0) (hi := b) (by omega) h1
  exact ⟨j, h2, h3⟩
end
section
/-! LEAVES: the small methods over the memory -/
section
variable {xs : List Int32} {d : Nat} {h : AH} {Q : QT} {m : MW} {ln : Nat → Nat} {N : Nat}
set_option maxRecDepth 20000 in
set_option maxHeartbeats 40000000 in
theorem c_withinI {v mm : Int32} {M vi : Int} (hm : mm.toInt = M) (hv : v.toInt = vi) (hT0 : 0 ≤ vi ∧ vi ≤ M → Q (some (.int 1)) h) (hF : (vi < 0 ∨ M < vi) → Q (some (.int 0)) h) : WP xs (d + 1) 54 0 0 [.int (v), .int (mm)] h Q := by
  have hT : 0 ≤ vi → vi ≤ M → Q (some (.int 1)) h := fun p q => hT0 ⟨p, q⟩
  refine wp_x mx_54 (L := [some (.int (v)), some (.int (mm))]) (Nat.le_of_ble_eq_true rfl) rfl ?_
  refine g_iload_n m54_0 rfl ?_
  refine h_if_lt (xi := vi) (zi := 0) m54_1 hv rfl (fun c1 => ?_) (fun c1 => ?_)
  · skip
    refine g_iconst m54_13 ?_
    refine g_zret m54_14 rt_54 (Or.inl rfl) ?_
    exact hF (by omega)
  · skip
    refine g_iload_n m54_4 rfl ?_
    refine g_iload_n m54_5 rfl ?_
    refine h_ic_gt (xi := vi) (zi := M) m54_6 hv hm (fun c2 => ?_) (fun c2 => ?_)
    · skip
      refine g_iconst m54_13 ?_
      refine g_zret m54_14 rt_54 (Or.inl rfl) ?_
      exact hF (by omega)
    · skip
      refine g_iconst m54_9 ?_
      refine g_goto m54_10 ?_
      refine g_zret m54_14 rt_54 (Or.inr rfl) ?_
      exact hT (by omega) (by omega)
theorem c_within {v mm : Int32} {M : Int} (hm : mm.toInt = M) (hT : ∀ j : Nat, v = nI j → (j : Int) ≤ M → Q (some (.int 1)) h) (hF : (v.toInt < 0 ∨ M < v.toInt) → Q (some (.int 0)) h) : WP xs (d + 1) 54 0 0 [.int v, .int mm] h Q := by
  refine c_withinI hm rfl (fun q => ?_) hF
  have hM := Int32.toInt_lt mm
  obtain ⟨j, ⟨h1, h2⟩, h3⟩ := nat_of (x := v) (lo := 0) (hi := M.toNat) (by omega) (by omega)
  exact hT j h3 (by omega)
set_option maxRecDepth 20000 in
set_option maxHeartbeats 40000000 in
theorem c_held {v z : Int32} (hQ : Q (some (.int (heldF v z))) h) : WP xs (d + 1) 51 0 0 [.int (v), .int (z)] h Q := by
  refine wp_x mx_51 (L := [some (.int (v)), some (.int (z))]) (Nat.le_of_ble_eq_true rfl) rfl ?_
  refine g_iload_n m51_0 rfl ?_
  refine h_if_ge (xi := _) (zi := 0) m51_1 rfl rfl (fun c1 => ?_) (fun c1 => ?_)
  · skip
    refine g_iload_n m51_8 rfl ?_
    refine g_iload_n m51_9 rfl ?_
    refine h_ic_le (xi := _) (zi := _) m51_10 rfl rfl (fun c2 => ?_) (fun c2 => ?_)
    · skip
      refine g_iload_n m51_17 rfl ?_
      refine g_iret m51_18 rt_51 ?_
      rw [show heldF v z = v by unfold heldF; (repeat' split) <;> first | rfl | omega] at hQ
      exact hQ
    · skip
      refine g_iload_n m51_13 rfl ?_
      refine g_goto m51_14 ?_
      refine g_iret m51_18 rt_51 ?_
      rw [show heldF v z = z by unfold heldF; (repeat' split) <;> first | rfl | omega] at hQ
      exact hQ
  · skip
    refine g_iconst m51_4 ?_
    refine g_goto m51_5 ?_
    refine g_iret m51_18 rt_51 ?_
    rw [show heldF v z = (0 : Int32) by unfold heldF; (repeat' split) <;> first | rfl | omega] at hQ
    exact hQ
set_option maxRecDepth 20000 in
set_option maxHeartbeats 40000000 in
theorem c_error {e : Nat} (h1 : 1 ≤ e) (he : e ≤ 5) (hQ : Q (some (.int (-1000000000 - nI e))) (H (upm m 56 e (m 56 e + 1)) ln N)) : WP xs (d + 1) 55 0 0 [.ref (32), .int (nI (e))] (H m ln N) Q := by
  refine wp_x mx_55 (L := [some (.ref (32)), some (.int (nI (e)))]) (Nat.le_of_ble_eq_true rfl) rfl ?_
  refine g_aload_n m55_0 rfl ?_
  refine h_gfR (c := 88) (k := 0) (p := 32) m55_1 rfl (t_0 _ _) rfl (Nat.le_of_ble_eq_true rfl) ?_
  refine g_iload_n m55_4 rfl ?_
  refine g_dup2 m55_5 rfl rfl ?_
  refine h_ial (k := 56) (p := 88) (j := e) m55_6 rfl (t_56 _ _) (rfl) (by omega) (Nat.le_of_ble_eq_true rfl) (rfl) ?_
  refine g_iconst m55_7 ?_
  refine g_iadd m55_8 rfl ?_
  refine h_ias (k := 56) (p := 88) (j := e) m55_9 rfl (t_56 _ _) (rfl) (by omega) (Nat.le_of_ble_eq_true rfl) ?_
  refine g_ldcw m55_10 ?_
  refine g_iload_n m55_13 rfl ?_
  refine g_isub m55_14 rfl ?_
  refine g_iret m55_15 rt_55 ?_
  exact hQ
set_option maxRecDepth 20000 in
set_option maxHeartbeats 40000000 in
theorem c_isDiner {v : Int32} {n : Nat} (hd : m 1 10 = nI n) (hn : n ≤ 8) (hT : ∀ j : Nat, v = nI j → j < n → Q (some (.int 1)) (H m ln N)) (hF : (v.toInt < 0 ∨ (n : Int) ≤ v.toInt) → Q (some (.int 0)) (H m ln N)) : WP xs (d + 1) 60 0 0 [.ref (32), .int (v)] (H m ln N) Q := by
  refine wp_x mx_60 (L := [some (.ref (32)), some (.int (v))]) (Nat.le_of_ble_eq_true rfl) rfl ?_
  refine g_iload_n m60_0 rfl ?_
  refine h_if_lt (xi := v.toInt) (zi := 0) m60_1 rfl rfl (fun c1 => ?_) (fun c1 => ?_)
  · skip
    refine g_iconst m60_19 ?_
    refine g_zret m60_20 rt_60 (Or.inl rfl) ?_
    exact hF (by omega)
  · skip
    refine g_iload_n m60_4 rfl ?_
    refine g_aload_n m60_5 rfl ?_
    refine h_gfR (c := 33) (k := 0) (p := 32) m60_6 rfl (t_0 _ _) rfl (Nat.le_of_ble_eq_true rfl) ?_
    refine h_gfI (k := 1) (p := 33) m60_9 rfl (t_1 _ _) rfl (hd) ?_
    refine h_ic_ge (xi := v.toInt) (zi := ((n : Nat) : Int)) m60_12 rfl (nI_toInt (by omega)) (fun c2 => ?_) (fun c2 => ?_)
    · skip
      refine g_iconst m60_19 ?_
      refine g_zret m60_20 rt_60 (Or.inl rfl) ?_
      exact hF (by omega)
    · skip
      refine g_iconst m60_15 ?_
      refine g_goto m60_16 ?_
      refine g_zret m60_20 rt_60 (Or.inr rfl) ?_
      obtain ⟨j, ⟨h1, h2⟩, h3⟩ := nat_of (x := v) (lo := 0) (hi := n) (by omega) (by omega)
      have e : v.toInt = (j : Int) := by rw [h3]; exact nI_toInt (by omega)
      exact hT j h3 (by omega)
theorem bit_sh : ∀ i, i < 8 → ∀ a, a < 256 → ((nI a >>> (nI i &&& 31)) &&& 1 = if a.testBit i = true then 1 else 0) := by decide +kernel
set_option maxRecDepth 20000 in
set_option maxHeartbeats 40000000 in
theorem c_has {a i : Nat} (hi : i < 8) (ha : a < 256) (hQ : Q (some (.int (if a.testBit i = true then 1 else 0))) h) : WP xs (d + 1) 52 0 0 [.int (nI (a)), .int (nI (i))] h Q := by
  refine wp_x mx_52 (L := [some (.int (nI (a))), some (.int (nI (i)))]) (Nat.le_of_ble_eq_true rfl) rfl ?_
  refine g_iload_n m52_0 rfl ?_
  refine g_iload_n m52_1 rfl ?_
  refine g_ishr m52_2 rfl ?_
  refine g_iconst m52_3 ?_
  refine g_iand (u := if a.testBit i = true then 1 else 0) m52_4 (bit_sh i hi a ha) ?_
  cases hb : a.testBit i
  · rw [hb] at hQ
    refine gwst (st' := [.int 0]) rfl ?_
    refine h_if_eqT (xi := 0) (zi := 0) m52_5 rfl rfl (by decide) ?_
    refine g_iconst m52_12 ?_
    refine g_zret m52_13 rt_52 (Or.inl rfl) ?_
    exact hQ
  · rw [hb] at hQ
    refine gwst (st' := [.int 1]) rfl ?_
    refine h_if_eqF (xi := 1) (zi := 0) m52_5 rfl rfl (by decide) ?_
    refine g_iconst m52_8 ?_
    refine g_goto m52_9 ?_
    refine g_zret m52_13 rt_52 (Or.inr rfl) ?_
    exact hQ
set_option maxRecDepth 20000 in
set_option maxHeartbeats 40000000 in
theorem c_mostToChangeTo {j : Nat} (hj : j ≤ 3) (hQ : Q (some (.int (if j = 0 then 99 else if j = 1 then 9 else if j = 2 then 99 else 1))) h) : WP xs (d + 1) 62 0 0 [.int (nI (j))] h Q := by
  refine wp_x mx_62 (L := [some (.int (nI (j)))]) (Nat.le_of_ble_eq_true rfl) rfl ?_
  rcases (show j = 0 ∨ j = 1 ∨ j = 2 ∨ j = 3 by omega) with rfl | rfl | rfl | rfl
  · skip
    refine g_iload_n m62_0 rfl ?_
    refine gs m62_1 ?_
    refine gwpc (pc' := 28) rfl ?_
    refine g_bipush m62_28 ?_
    refine g_iret m62_30 rt_62 ?_
    exact hQ
  · skip
    refine g_iload_n m62_0 rfl ?_
    refine gs m62_1 ?_
    refine gwpc (pc' := 31) rfl ?_
    refine g_bipush m62_31 ?_
    refine g_iret m62_33 rt_62 ?_
    exact hQ
  · skip
    refine g_iload_n m62_0 rfl ?_
    refine gs m62_1 ?_
    refine gwpc (pc' := 34) rfl ?_
    refine g_bipush m62_34 ?_
    refine g_iret m62_36 rt_62 ?_
    exact hQ
  · skip
    refine g_iload_n m62_0 rfl ?_
    refine gs m62_1 ?_
    refine gwpc (pc' := 37) rfl ?_
    refine g_iconst m62_37 ?_
    refine g_iret m62_38 rt_62 ?_
    exact hQ
def aboveF (k : Nat) : Int32 := if k = 0 then -1 else if k < 4 then 0 else nI (k - 3)
set_option maxRecDepth 20000 in
set_option maxHeartbeats 40000000 in
theorem c_inI {v a b : Int32} {A B vi : Int} (ha : a.toInt = A) (hb : b.toInt = B) (hv : v.toInt = vi) (hT : A ≤ vi ∧ vi ≤ B → Q (some (.int 1)) h) (hF : (vi < A ∨ B < vi) → Q (some (.int 0)) h) : WP xs (d + 1) 107 0 0 [.int (v), .int (a), .int (b)] h Q := by
  refine wp_x mx_107 (L := [some (.int (v)), some (.int (a)), some (.int (b))]) (Nat.le_of_ble_eq_true rfl) rfl ?_
  refine g_iload_n m107_0 rfl ?_
  refine g_iload_n m107_1 rfl ?_
  refine h_ic_lt (xi := vi) (zi := A) m107_2 hv ha (fun c1 => ?_) (fun c1 => ?_)
  · skip
    refine g_iconst m107_14 ?_
    refine g_zret m107_15 rt_107 (Or.inl rfl) ?_
    exact hF (by omega)
  · skip
    refine g_iload_n m107_5 rfl ?_
    refine g_iload_n m107_6 rfl ?_
    refine h_ic_gt (xi := vi) (zi := B) m107_7 hv hb (fun c2 => ?_) (fun c2 => ?_)
    · skip
      refine g_iconst m107_14 ?_
      refine g_zret m107_15 rt_107 (Or.inl rfl) ?_
      exact hF (by omega)
    · skip
      refine g_iconst m107_10 ?_
      refine g_goto m107_11 ?_
      refine g_zret m107_15 rt_107 (Or.inr rfl) ?_
      exact hT ⟨by omega, by omega⟩
theorem c_in {v a b : Int32} {A B : Int} (ha : a.toInt = A) (hb : b.toInt = B) (hA : 0 ≤ A) (hT : ∀ j : Nat, v = nI j → A ≤ (j : Int) → (j : Int) ≤ B → Q (some (.int 1)) h) (hF : (v.toInt < A ∨ B < v.toInt) → Q (some (.int 0)) h) : WP xs (d + 1) 107 0 0 [.int v, .int a, .int b] h Q := by
  refine c_inI ha hb rfl (fun q => ?_) hF
  obtain ⟨j, ⟨h1, h2⟩, h3⟩ := nat_of (x := v) (lo := A.toNat) (hi := B.toNat) (by omega) (by omega)
  exact hT j h3 (by omega) (by omega)
set_option maxRecDepth 20000 in
set_option maxHeartbeats 40000000 in
theorem c_errs {k : Int32} {e : Nat} (hk : -1000000000 - k = nI e) (h1 : 1 ≤ e) (he : e ≤ 5) (hQ : Q (some (.int k)) (H (upm m 62 e (m 62 e + 1)) ln N)) : WP xs (d + 1) 108 0 0 [.ref (89), .int (k)] (H m ln N) Q := by
  refine wp_x mx_108 (L := [some (.ref (89)), some (.int (k))]) (Nat.le_of_ble_eq_true rfl) rfl ?_
  refine g_aload_n m108_0 rfl ?_
  refine h_gfR (c := 94) (k := 57) (p := 89) m108_1 rfl (t_57 _ _) rfl (Nat.le_of_ble_eq_true rfl) ?_
  refine g_ldci m108_4 rfl ?_
  refine g_iload_n m108_6 rfl ?_
  refine g_isub (u := nI (e)) m108_7 (hk) ?_
  refine g_dup2 m108_8 rfl rfl ?_
  refine h_ial (k := 62) (p := 94) (j := e) m108_9 rfl (t_62 _ _) (rfl) (by omega) (Nat.le_of_ble_eq_true rfl) (rfl) ?_
  refine g_iconst m108_10 ?_
  refine g_iadd m108_11 rfl ?_
  refine h_ias (k := 62) (p := 94) (j := e) m108_12 rfl (t_62 _ _) (rfl) (by omega) (Nat.le_of_ble_eq_true rfl) ?_
  refine g_iload_n m108_13 rfl ?_
  refine g_iret m108_14 rt_108 ?_
  exact hQ
set_option maxRecDepth 20000 in
set_option maxHeartbeats 40000000 in
theorem c_heldM {v z : Int32} (hQ : Q (some (.int (heldF v z))) h) : WP xs (d + 1) 109 0 0 [.int (v), .int (0), .int (z)] h Q := by
  refine wp_x mx_109 (L := [some (.int (v)), some (.int (0)), some (.int (z))]) (Nat.le_of_ble_eq_true rfl) rfl ?_
  refine g_iload_n m109_0 rfl ?_
  refine g_iload_n m109_1 rfl ?_
  refine h_ic_ge (xi := _) (zi := 0) m109_2 rfl rfl (fun c1 => ?_) (fun c1 => ?_)
  · skip
    refine g_iload_n m109_9 rfl ?_
    refine g_iload_n m109_10 rfl ?_
    refine h_ic_le (xi := _) (zi := _) m109_11 rfl rfl (fun c2 => ?_) (fun c2 => ?_)
    · skip
      refine g_iload_n m109_18 rfl ?_
      refine g_iret m109_19 rt_109 ?_
      rw [show heldF v z = v by unfold heldF; (repeat' split) <;> first | rfl | omega] at hQ
      exact hQ
    · skip
      refine g_iload_n m109_14 rfl ?_
      refine g_goto m109_15 ?_
      refine g_iret m109_19 rt_109 ?_
      rw [show heldF v z = z by unfold heldF; (repeat' split) <;> first | rfl | omega] at hQ
      exact hQ
  · skip
    refine g_iload_n m109_5 rfl ?_
    refine g_goto m109_6 ?_
    refine g_iret m109_19 rt_109 ?_
    rw [show heldF v z = (0 : Int32) by unfold heldF; (repeat' split) <;> first | rfl | omega] at hQ
    exact hQ
set_option maxRecDepth 20000 in
set_option maxHeartbeats 40000000 in
theorem c_its {i w : Nat} (hi : i < 8) (hw : w < 6) (hQ : Q (some (.int (m 58 (16 + 6 * i + w)))) (H m ln N)) : WP xs (d + 1) 111 0 0 [.ref (89), .int (nI (i)), .int (nI (w))] (H m ln N) Q := by
  refine wp_x mx_111 (L := [some (.ref (89)), some (.int (nI (i))), some (.int (nI (w)))]) (Nat.le_of_ble_eq_true rfl) rfl ?_
  refine g_aload_n m111_0 rfl ?_
  refine h_gfR (c := 90) (k := 57) (p := 89) m111_1 rfl (t_57 _ _) rfl (Nat.le_of_ble_eq_true rfl) ?_
  refine g_bipush m111_4 ?_
  refine g_bipush m111_6 ?_
  refine g_iload_n m111_8 rfl ?_
  refine g_imul (u := nI (6 * i)) m111_9 (pk_mul 6 i) ?_
  refine g_iadd (u := nI (16 + (6 * i))) m111_10 (nI_add 16 (6 * i)) ?_
  refine g_iload_n m111_11 rfl ?_
  refine g_iadd (u := nI ((16 + (6 * i)) + w)) m111_12 (nI_add (16 + (6 * i)) w) ?_
  refine h_ial (k := 58) (p := 90) (j := (16 + (6 * i)) + w) m111_13 rfl (t_58 _ _) (rfl) (by omega) (Nat.le_of_ble_eq_true rfl) (rfl) ?_
  refine g_iret m111_14 rt_111 ?_
  exact hQ
set_option maxRecDepth 20000 in
set_option maxHeartbeats 40000000 in
theorem c_gets {i w : Nat} {x : Int32} (hi : i < 8) (hw : w < 6) (hQ : Q none (H (upm m 58 (16 + 6 * i + w) x) ln N)) : WP xs (d + 1) 112 0 0 [.ref (89), .int (nI (i)), .int (nI (w)), .int (x)] (H m ln N) Q := by
  refine wp_x mx_112 (L := [some (.ref (89)), some (.int (nI (i))), some (.int (nI (w))), some (.int (x))]) (Nat.le_of_ble_eq_true rfl) rfl ?_
  refine g_aload_n m112_0 rfl ?_
  refine h_gfR (c := 90) (k := 57) (p := 89) m112_1 rfl (t_57 _ _) rfl (Nat.le_of_ble_eq_true rfl) ?_
  refine g_bipush m112_4 ?_
  refine g_bipush m112_6 ?_
  refine g_iload_n m112_8 rfl ?_
  refine g_imul (u := nI (6 * i)) m112_9 (pk_mul 6 i) ?_
  refine g_iadd (u := nI (16 + (6 * i))) m112_10 (nI_add 16 (6 * i)) ?_
  refine g_iload_n m112_11 rfl ?_
  refine g_iadd (u := nI ((16 + (6 * i)) + w)) m112_12 (nI_add (16 + (6 * i)) w) ?_
  refine g_iload_n m112_13 rfl ?_
  refine h_ias (k := 58) (p := 90) (j := (16 + (6 * i)) + w) m112_14 rfl (t_58 _ _) (rfl) (by omega) (Nat.le_of_ble_eq_true rfl) ?_
  refine g_vret m112_15 ?_
  exact hQ
set_option maxRecDepth 20000 in
set_option maxHeartbeats 40000000 in
theorem c_becomes {a : Nat} {x : Int32} (ha : a < 234) (hQ : Q (some (.int (m 58 a))) (H (upm m 58 a x) ln N)) : WP xs (d + 1) 114 0 0 [.ref (89), .int (nI (a)), .int (x)] (H m ln N) Q := by
  refine wp_x mx_114 (L := [some (.ref (89)), some (.int (nI (a))), some (.int (x)), none]) (Nat.le_of_ble_eq_true rfl) rfl ?_
  refine g_aload_n m114_0 rfl ?_
  refine h_gfR (c := 90) (k := 57) (p := 89) m114_1 rfl (t_57 _ _) rfl (Nat.le_of_ble_eq_true rfl) ?_
  refine g_iload_n m114_4 rfl ?_
  refine h_ial (k := 58) (p := 90) (j := a) m114_5 rfl (t_58 _ _) (rfl) (by omega) (Nat.le_of_ble_eq_true rfl) (rfl) ?_
  refine g_istore_n (L2 := [some (.ref (89)), some (.int (nI (a))), some (.int (x)), some (.int (m (58) (a)))]) m114_6 rfl rfl ?_
  refine g_aload_n m114_7 rfl ?_
  refine h_gfR (c := 90) (k := 57) (p := 89) m114_8 rfl (t_57 _ _) rfl (Nat.le_of_ble_eq_true rfl) ?_
  refine g_iload_n m114_11 rfl ?_
  refine g_iload_n m114_12 rfl ?_
  refine h_ias (k := 58) (p := 90) (j := a) m114_13 rfl (t_58 _ _) (rfl) (by omega) (Nat.le_of_ble_eq_true rfl) ?_
  refine g_iload_n m114_14 rfl ?_
  refine g_iret m114_15 rt_114 ?_
  exact hQ
set_option maxRecDepth 20000 in
set_option maxHeartbeats 40000000 in
theorem c_isDinerM {v : Int32} {n : Nat} (hd : m 58 2 = nI n) (hn : n ≤ 8) (hT : ∀ j : Nat, v = nI j → j < n → Q (some (.int 1)) (H m ln N)) (hF : (v.toInt < 0 ∨ (n : Int) ≤ v.toInt) → Q (some (.int 0)) (H m ln N)) : WP xs (d + 2) 113 0 0 [.ref (89), .int (v)] (H m ln N) Q := by
  refine wp_x mx_113 (L := [some (.ref (89)), some (.int (v))]) (Nat.le_of_ble_eq_true rfl) rfl ?_
  refine g_iload_n m113_0 rfl ?_
  refine g_iconst m113_1 ?_
  refine g_aload_n m113_2 rfl ?_
  refine h_gfR (c := 90) (k := 57) (p := 89) m113_3 rfl (t_57 _ _) rfl (Nat.le_of_ble_eq_true rfl) ?_
  refine g_iconst m113_6 ?_
  refine h_ial (k := 58) (p := 90) (j := 2) m113_7 rfl (t_58 _ _) (rfl) (by omega) (Nat.le_of_ble_eq_true rfl) (hd) ?_
  refine g_iconst m113_8 ?_
  refine g_isub m113_9 rfl ?_
  refine g_cs (args := [.int (v), .int (0), .int ((nI n - 1))]) (rest := []) 0 (Or.inl rfl) m113_10 (Nat.le_of_ble_eq_true rfl) rfl rfl (Nat.le_of_ble_eq_true rfl) ?_
  refine c_inI (A := 0) (B := (n : Int) - 1) (vi := v.toInt) rfl (by rw [sub_k (a := n) (b := 1) (nI_toInt (by omega)) rfl (by omega) (by omega)]) rfl (fun a => ?_) (fun a => ?_)
  · obtain ⟨j, ⟨h1, h2⟩, h3⟩ := nat_of (x := v) (lo := 0) (hi := n) (by omega) (by omega)
    have e : v.toInt = (j : Int) := by rw [h3]; exact nI_toInt (by omega)
    have hj : j < n := by omega
    refine gwr ?_
    refine g_zret m113_13 rt_113 (Or.inr rfl) ?_
    exact hT j h3 hj
  · skip
    refine gwr ?_
    refine g_zret m113_13 rt_113 (Or.inl rfl) ?_
    exact hF (by omega)
set_option maxRecDepth 20000 in
set_option maxHeartbeats 40000000 in
theorem c_above {k : Nat} (hk : k < 7) (hQ : Q (some (.int (aboveF k))) h) : WP xs (d + 1) 136 0 0 [.int (nI (k))] h Q := by
  refine wp_x mx_136 (L := [some (.int (nI (k)))]) (Nat.le_of_ble_eq_true rfl) rfl ?_
  rcases (show k = 0 ∨ k = 1 ∨ k = 2 ∨ k = 3 ∨ k = 4 ∨ k = 5 ∨ k = 6 by omega) with rfl | rfl | rfl | rfl | rfl | rfl | rfl
  · refine gwl (L' := [some (.int 0)]) rfl ?_
    refine g_iload_n m136_0 rfl ?_
    refine h_if_neT (xi := 0) (zi := 0) m136_1 rfl rfl (by decide) ?_
    refine g_iconst m136_4 ?_
    refine g_goto m136_5 ?_
    refine g_iret m136_20 rt_136 ?_
    exact hQ
  · refine gwl (L' := [some (.int 1)]) rfl ?_
    refine g_iload_n m136_0 rfl ?_
    refine h_if_neF (xi := 1) (zi := 0) m136_1 rfl rfl (by decide) ?_
    refine g_iload_n m136_8 rfl ?_
    refine g_iconst m136_9 ?_
    refine h_ic_leT (xi := 1) (zi := 3) m136_10 rfl rfl (by decide) ?_
    refine g_iconst m136_19 ?_
    refine g_iret m136_20 rt_136 ?_
    exact hQ
  · refine gwl (L' := [some (.int 2)]) rfl ?_
    refine g_iload_n m136_0 rfl ?_
    refine h_if_neF (xi := 2) (zi := 0) m136_1 rfl rfl (by decide) ?_
    refine g_iload_n m136_8 rfl ?_
    refine g_iconst m136_9 ?_
    refine h_ic_leT (xi := 2) (zi := 3) m136_10 rfl rfl (by decide) ?_
    refine g_iconst m136_19 ?_
    refine g_iret m136_20 rt_136 ?_
    exact hQ
  · refine gwl (L' := [some (.int 3)]) rfl ?_
    refine g_iload_n m136_0 rfl ?_
    refine h_if_neF (xi := 3) (zi := 0) m136_1 rfl rfl (by decide) ?_
    refine g_iload_n m136_8 rfl ?_
    refine g_iconst m136_9 ?_
    refine h_ic_leT (xi := 3) (zi := 3) m136_10 rfl rfl (by decide) ?_
    refine g_iconst m136_19 ?_
    refine g_iret m136_20 rt_136 ?_
    exact hQ
  · refine gwl (L' := [some (.int 4)]) rfl ?_
    refine g_iload_n m136_0 rfl ?_
    refine h_if_neF (xi := 4) (zi := 0) m136_1 rfl rfl (by decide) ?_
    refine g_iload_n m136_8 rfl ?_
    refine g_iconst m136_9 ?_
    refine h_ic_leF (xi := 4) (zi := 3) m136_10 rfl rfl (by decide) ?_
    refine g_iload_n m136_13 rfl ?_
    refine g_iconst m136_14 ?_
    refine g_isub (u := (1 : Int32)) m136_15 (by decide) ?_
    refine g_goto m136_16 ?_
    refine g_iret m136_20 rt_136 ?_
    exact hQ
  · refine gwl (L' := [some (.int 5)]) rfl ?_
    refine g_iload_n m136_0 rfl ?_
    refine h_if_neF (xi := 5) (zi := 0) m136_1 rfl rfl (by decide) ?_
    refine g_iload_n m136_8 rfl ?_
    refine g_iconst m136_9 ?_
    refine h_ic_leF (xi := 5) (zi := 3) m136_10 rfl rfl (by decide) ?_
    refine g_iload_n m136_13 rfl ?_
    refine g_iconst m136_14 ?_
    refine g_isub (u := (2 : Int32)) m136_15 (by decide) ?_
    refine g_goto m136_16 ?_
    refine g_iret m136_20 rt_136 ?_
    exact hQ
  · refine gwl (L' := [some (.int 6)]) rfl ?_
    refine g_iload_n m136_0 rfl ?_
    refine h_if_neF (xi := 6) (zi := 0) m136_1 rfl rfl (by decide) ?_
    refine g_iload_n m136_8 rfl ?_
    refine g_iconst m136_9 ?_
    refine h_ic_leF (xi := 6) (zi := 3) m136_10 rfl rfl (by decide) ?_
    refine g_iload_n m136_13 rfl ?_
    refine g_iconst m136_14 ?_
    refine g_isub (u := (3 : Int32)) m136_15 (by decide) ?_
    refine g_goto m136_16 ?_
    refine g_iret m136_20 rt_136 ?_
    exact hQ
set_option maxRecDepth 20000 in
set_option maxHeartbeats 40000000 in
theorem c_isSheet {v : Int32} (hT : ∀ j : Nat, v = nI j → j < 4 → Q (some (.int 1)) h) (hF : (v.toInt < 0 ∨ 3 < v.toInt) → Q (some (.int 0)) h) : WP xs (d + 2) 160 0 0 [.int (v)] h Q := by
  refine wp_x mx_160 (L := [some (.int (v))]) (Nat.le_of_ble_eq_true rfl) rfl ?_
  refine g_iload_n m160_0 rfl ?_
  refine g_iconst m160_1 ?_
  refine g_iconst m160_2 ?_
  refine g_cs (args := [.int (v), .int (0), .int (3)]) (rest := []) 0 (Or.inl rfl) m160_3 (Nat.le_of_ble_eq_true rfl) rfl rfl (Nat.le_of_ble_eq_true rfl) ?_
  refine c_in (A := 0) (B := 3) rfl rfl (by decide) (fun jv ev a_1 a_1' => ?_) (fun a_1 => ?_)
  · subst ev
    refine gwr ?_
    refine g_zret m160_6 rt_160 (Or.inr rfl) ?_
    exact hT jv rfl (by omega)
  · skip
    refine gwr ?_
    refine g_zret m160_6 rt_160 (Or.inl rfl) ?_
    exact hF (by omega)
end
end
section
/-! A LAW WORKED OUT -/
section
variable {xs : List Int32} {d : Nat} {h : AH} {Q : QT} {m : MW} {ln : Nat → Nat} {N : Nat}
def Stk (w : Nat → Int32) : List Int32 → Prop
  | [] => True
  | x :: r => w r.length = x ∧ Stk w r
theorem Stk_up {m : MW} {k j : Nat} {x : Int32} : ∀ {s : List Int32}, s.length ≤ j → Stk (m k) s → Stk (upm m k j x k) s
  | [], _, _ => trivial
  | y :: r, hl, h => by
    have hl2 : r.length + 1 ≤ j := hl
    exact ⟨(upm_j m x (by omega)).trans h.1, Stk_up (by omega) h.2⟩
theorem Stk_push {m : MW} {k j : Nat} {x : Int32} {s : List Int32} (hl : s.length = j) (h : Stk (m k) s) : Stk (upm m k j x k) (x :: s) := by
  subst hl
  exact ⟨upm_self m k s.length x, Stk_up (Nat.le_refl _) h⟩
theorem Stk_pushE {m : MW} {k j : Nat} {x z : Int32} {s : List Int32} (e : z = x) (hl : s.length = j) (h : Stk (m k) s) : Stk (upm m k j x k) (z :: s) := by
  rw [e]
  exact Stk_push hl h
theorem EqM_w {m m2 : MW} (h : EqM m m2) (i j : Nat) (x : Int32) : EqM m (upm m2 (71 + 3 * i) j x) := by
  intro k2 j2 q
  unfold upm
  by_cases e : k2 = 71 + 3 * i ∧ j2 = j
  · exact absurd (Or.inl ⟨by omega, by omega⟩) q
  · rw [if_neg e, h k2 j2 q]
theorem cod_drop {m : MW} {ln : Nat → Nat} {i q : Nat} (hq : q < ln i) : (codL m ln i).drop q = m (70 + 3 * i) q :: (codL m ln i).drop (q + 1) := by
  have hl : q < (codL m ln i).length := by
    unfold codL
    rw [List.length_map, List.length_range]
    exact hq
  rw [List.drop_eq_getElem_cons hl]
  congr 1
  simp [codL]
theorem lsD {k : Int} (h : 1000 ≤ k ∨ k < 0) : tgO 119 (Op.lookupswitch.offset [(0, 121), (1, 132), (2, 143), (33, 154), (37, 243), (38, 333), (42, 204), (43, 174), (45, 189), (47, 219), (60, 267), (61, 289), (62, 311), (124, 358)] 383 k) = 502 := by
  simp only [Op.lookupswitch.offset_cons, Op.lookupswitch.offset_nil]
  repeat rw [if_neg (by omega)]
  rfl
set_option maxRecDepth 20000 in
set_option maxHeartbeats 40000000 in
theorem c_worth {i : Nat} {a b c : Int32} (hi : i < N) (hln : ln i ≤ 50) (hok : CodeOk (codL m ln i)) (hQ : ∀ m2, EqM m m2 → Q (some (.int (valL (codL m ln i) a b c))) (H m2 ln N)) : WP xs (d + 1) 14 0 0 [.ref (101 + 3 * i), .int (a), .int (b), .int (c)] (H m ln N) Q := by
  refine wp_x mx_14 (L := [some (.ref (101 + 3 * i)), some (.int (a)), some (.int (b)), some (.int (c)), none, none, none, none, none, none]) (Nat.le_of_ble_eq_true rfl) rfl ?_
  refine g_iconst m14_0 ?_
  refine g_istore (L2 := [some (.ref (101 + 3 * i)), some (.int (a)), some (.int (b)), some (.int (c)), some (.int (0)), none, none, none, none, none]) m14_1 rfl rfl ?_
  refine g_iconst m14_3 ?_
  refine g_istore (L2 := [some (.ref (101 + 3 * i)), some (.int (a)), some (.int (b)), some (.int (c)), some (.int (0)), some (.int (0)), none, none, none, none]) m14_4 rfl rfl ?_
  obtain ⟨v, hv⟩ := hok a b c
  have hval : valL (codL m ln i) a b c = v := by unfold valL; rw [hv []]; rfl
  rw [hval] at hQ
  have key : ∀ (n q : Nat) (s : List Int32) (m2 : MW) (o6 o7 o8 o9 : Option Value), q + n = ln i → evS a b c ((codL m ln i).drop q) s = some [v] → s.length ≤ q → Stk (m2 (71 + 3 * i)) s → EqM m m2 → gw xs (WP xs d) 14 Q 6 [some (.ref (101 + 3 * i)), some (.int a), some (.int b), some (.int c), some (.int (nI s.length)), some (.int (nI q)), o6, o7, o8, o9] [] (H m2 ln N) 0 0 := by
    intro n
    induction n with
    | zero =>
      intro q s m2 o6 o7 o8 o9 hq hs hl hst hE
      have hnil : (codL m ln i).drop q = [] := List.drop_eq_nil_of_le (by unfold codL; rw [List.length_map, List.length_range]; omega)
      rw [hnil] at hs
      have hs2 : s = [v] := by simpa [evS] using hs
      subst hs2
      have h1 : 1 ≤ q := hl
      refine g_iload m14_6 rfl ?_
      refine g_aload_n m14_8 rfl ?_
      refine h_gfR (c := 102 + 3 * i) (k := 69 + 3 * i) (p := 101 + 3 * i) m14_9 (pLo _) (tLo hi) rfl (le3 (Nat.le_of_ble_eq_true rfl)) ?_
      refine h_alen (k := 70 + 3 * i) (p := 102 + 3 * i) m14_12 (pLc _) (tLc hi) (Or.inl rfl) ?_
      refine h_ic_geT (xi := ((q : Nat) : Int)) (zi := ((ln i : Nat) : Int)) m14_13 (nI_toInt (by omega)) (nI_toInt (by omega)) (by omega) ?_
      refine g_aload_n m14_524 rfl ?_
      refine h_gfR (c := 103 + 3 * i) (k := 69 + 3 * i) (p := 101 + 3 * i) m14_525 (pLo _) (tLo hi) rfl (le3 (Nat.le_of_ble_eq_true rfl)) ?_
      refine h_alen (k := 71 + 3 * i) (p := 103 + 3 * i) m14_528 (pLw _) (tLw hi) (Or.inl rfl) ?_
      refine h_if_leF (xi := ((ln i : Nat) : Int)) (zi := 0) m14_529 (nI_toInt (by omega)) rfl (by omega) ?_
      refine g_aload_n m14_532 rfl ?_
      refine h_gfR (c := 103 + 3 * i) (k := 69 + 3 * i) (p := 101 + 3 * i) m14_533 (pLo _) (tLo hi) rfl (le3 (Nat.le_of_ble_eq_true rfl)) ?_
      refine g_iconst m14_536 ?_
      refine h_ial (k := 71 + 3 * i) (p := 103 + 3 * i) (j := 0) m14_537 (pLw _) (tLw hi) (rfl) (by omega) (by omega) (hst.1) ?_
      refine g_goto m14_538 ?_
      refine g_iret m14_542 rt_14 ?_
      exact hQ _ hE
    | succ n ih =>
      intro q s m2 o6 o7 o8 o9 hq hs hl hst hE
      have hql : q < ln i := by omega
      rw [cod_drop hql] at hs
      have he0 : m2 (70 + 3 * i) q = m (70 + 3 * i) q := hE _ _ (fun z => by rcases z with z | z <;> omega)
      revert hs he0
      generalize m (70 + 3 * i) q = kk
      intro hs he0
      obtain ⟨s2, hev, hs2⟩ : ∃ s2, evI a b c kk s = some s2 ∧ evS a b c ((codL m ln i).drop (q + 1)) s2 = some [v] := by
        have h9 : (evI a b c kk s).bind (evS a b c ((codL m ln i).drop (q + 1))) = some [v] := hs
        exact Option.bind_eq_some_iff.mp h9
      by_cases hk0 : kk = 0
      · subst hk0
        refine g_iload m14_6 rfl ?_
        refine g_aload_n m14_8 rfl ?_
        refine h_gfR (c := 102 + 3 * i) (k := 69 + 3 * i) (p := 101 + 3 * i) m14_9 (pLo _) (tLo hi) rfl (le3 (Nat.le_of_ble_eq_true rfl)) ?_
        refine h_alen (k := 70 + 3 * i) (p := 102 + 3 * i) m14_12 (pLc _) (tLc hi) (Or.inl rfl) ?_
        refine h_ic_geF (xi := ((q : Nat) : Int)) (zi := ((ln i : Nat) : Int)) m14_13 (nI_toInt (by omega)) (nI_toInt (by omega)) (by omega) ?_
        refine g_aload_n m14_16 rfl ?_
        refine h_gfR (c := 102 + 3 * i) (k := 69 + 3 * i) (p := 101 + 3 * i) m14_17 (pLo _) (tLo hi) rfl (le3 (Nat.le_of_ble_eq_true rfl)) ?_
        refine g_iload m14_20 rfl ?_
        refine h_ial (k := 70 + 3 * i) (p := 102 + 3 * i) (j := q) m14_22 (pLc _) (tLc hi) (rfl) (by omega) (by omega) (he0) ?_
        refine g_istore (L2 := [some (.ref (101 + 3 * i)), some (.int (a)), some (.int (b)), some (.int (c)), some (.int (nI (s.length))), some (.int (nI (q))), some (.int (0)), o7, o8, o9]) m14_23 rfl rfl ?_
        refine g_iload m14_25 rfl ?_
        refine g_sipush m14_27 ?_
        refine h_ic_geF (xi := 0) (zi := 1000) m14_30 rfl rfl (by decide) ?_
        refine g_iload m14_33 rfl ?_
        refine g_iconst m14_35 ?_
        refine h_ic_geF (xi := 0) (zi := 3) m14_36 rfl rfl (by decide) ?_
        refine g_iconst m14_39 ?_
        refine g_goto m14_40 ?_
        refine g_istore (L2 := [some (.ref (101 + 3 * i)), some (.int (a)), some (.int (b)), some (.int (c)), some (.int (nI (s.length))), some (.int (nI (q))), some (.int (0)), some (.int (0)), o8, o9]) m14_55 rfl rfl ?_
        refine g_iload m14_57 rfl ?_
        refine g_iload m14_59 rfl ?_
        refine g_isub (u := nI (s.length)) m14_61 (by show nI s.length - nI 0 = nI s.length; rw [pk_sub (Nat.zero_le _), Nat.sub_zero]) ?_
        refine g_istore (L2 := [some (.ref (101 + 3 * i)), some (.int (a)), some (.int (b)), some (.int (c)), some (.int (nI (s.length))), some (.int (nI (q))), some (.int (0)), some (.int (0)), o8, o9]) m14_62 rfl rfl ?_
        refine g_iload m14_64 rfl ?_
        refine h_if_ltF (xi := ((s.length : Nat) : Int)) (zi := 0) m14_66 (nI_toInt (by omega)) rfl (by omega) ?_
        refine g_iload m14_69 rfl ?_
        refine g_aload_n m14_71 rfl ?_
        refine h_gfR (c := 103 + 3 * i) (k := 69 + 3 * i) (p := 101 + 3 * i) m14_72 (pLo _) (tLo hi) rfl (le3 (Nat.le_of_ble_eq_true rfl)) ?_
        refine h_alen (k := 71 + 3 * i) (p := 103 + 3 * i) m14_75 (pLw _) (tLw hi) (Or.inl rfl) ?_
        refine h_ic_ltT (xi := ((s.length : Nat) : Int)) (zi := ((ln i : Nat) : Int)) m14_76 (nI_toInt (by omega)) (nI_toInt (by omega)) (by omega) ?_
        refine g_aload_n m14_81 rfl ?_
        refine h_gfR (c := 103 + 3 * i) (k := 69 + 3 * i) (p := 101 + 3 * i) m14_82 (pLo _) (tLo hi) rfl (le3 (Nat.le_of_ble_eq_true rfl)) ?_
        refine g_iload m14_85 rfl ?_
        refine h_ial (k := 71 + 3 * i) (p := 103 + 3 * i) (j := s.length) m14_87 (pLw _) (tLw hi) (rfl) (by omega) (by omega) (rfl) ?_
        refine g_istore (L2 := [some (.ref (101 + 3 * i)), some (.int (a)), some (.int (b)), some (.int (c)), some (.int (nI (s.length))), some (.int (nI (q))), some (.int (0)), some (.int (0)), some (.int (m2 (71 + 3 * i) s.length)), o9]) m14_88 rfl rfl ?_
        refine g_iload m14_90 rfl ?_
        refine g_iconst m14_92 ?_
        refine g_iadd (u := nI ((s.length) + 1)) m14_93 (nI_add (s.length) 1) ?_
        refine g_aload_n m14_94 rfl ?_
        refine h_gfR (c := 103 + 3 * i) (k := 69 + 3 * i) (p := 101 + 3 * i) m14_95 (pLo _) (tLo hi) rfl (le3 (Nat.le_of_ble_eq_true rfl)) ?_
        refine h_alen (k := 71 + 3 * i) (p := 103 + 3 * i) m14_98 (pLw _) (tLw hi) (Or.inl rfl) ?_
        refine h_ic_ge (xi := (((s.length) + 1 : Nat) : Int)) (zi := ((ln i : Nat) : Int)) m14_99 (nI_toInt (by omega)) (nI_toInt (by omega)) (fun c1 => ?_) (fun c1 => ?_)
        · skip
          refine g_iconst m14_114 ?_
          refine g_istore (L2 := [some (.ref (101 + 3 * i)), some (.int (a)), some (.int (b)), some (.int (c)), some (.int (nI (s.length))), some (.int (nI (q))), some (.int (0)), some (.int (0)), some (.int (m2 (71 + 3 * i) s.length)), some (.int (0))]) m14_115 rfl rfl ?_
          refine g_iload m14_117 rfl ?_
          refine gs m14_119 ?_
          refine gwpc (pc' := 240) rfl ?_
          refine g_aload_n m14_240 rfl ?_
          refine h_gfR (c := 103 + 3 * i) (k := 69 + 3 * i) (p := 101 + 3 * i) m14_241 (pLo _) (tLo hi) rfl (le3 (Nat.le_of_ble_eq_true rfl)) ?_
          refine g_iload m14_244 rfl ?_
          refine g_iload_n m14_246 rfl ?_
          refine h_ias (k := 71 + 3 * i) (p := 103 + 3 * i) (j := s.length) m14_247 (pLw _) (tLw hi) (rfl) (by omega) (by omega) ?_
          refine g_goto m14_248 ?_
          refine gwl (L' := [some (.ref (101 + 3 * i)), some (.int a), some (.int b), some (.int c), some (.int (nI (s.length))), some (.int (nI q)), _, _, _, _]) rfl ?_
          refine g_iinc (L2 := [some (.ref (101 + 3 * i)), some (.int (a)), some (.int (b)), some (.int (c)), some (.int (nI ((s.length) + 1))), some (.int (nI (q))), some (.int (0)), some (.int (0)), some (.int (m2 (71 + 3 * i) s.length)), some (.int (0))]) m14_515 rfl (nI_1 _) rfl rfl ?_
          refine g_iinc (L2 := [some (.ref (101 + 3 * i)), some (.int (a)), some (.int (b)), some (.int (c)), some (.int (nI ((s.length) + 1))), some (.int (nI (q + 1))), some (.int (0)), some (.int (0)), some (.int (m2 (71 + 3 * i) s.length)), some (.int (0))]) m14_518 rfl (nI_1 _) rfl rfl ?_
          refine g_goto m14_521 ?_
          rw [ev_0] at hev
          obtain rfl := Option.some.inj hev
          exact ih (q + 1) _ _ _ _ _ _ (by omega) hs2 (by show s.length + 1 ≤ q + 1; omega) (Stk_pushE rfl rfl hst) (EqM_w hE _ _ _)
        · skip
          refine g_aload_n m14_102 rfl ?_
          refine h_gfR (c := 103 + 3 * i) (k := 69 + 3 * i) (p := 101 + 3 * i) m14_103 (pLo _) (tLo hi) rfl (le3 (Nat.le_of_ble_eq_true rfl)) ?_
          refine g_iload m14_106 rfl ?_
          refine g_iconst m14_108 ?_
          refine g_iadd (u := nI ((s.length) + 1)) m14_109 (nI_add (s.length) 1) ?_
          refine h_ial (k := 71 + 3 * i) (p := 103 + 3 * i) (j := (s.length) + 1) m14_110 (pLw _) (tLw hi) (rfl) (by omega) (by omega) (rfl) ?_
          refine g_goto m14_111 ?_
          refine g_istore (L2 := [some (.ref (101 + 3 * i)), some (.int (a)), some (.int (b)), some (.int (c)), some (.int (nI (s.length))), some (.int (nI (q))), some (.int (0)), some (.int (0)), some (.int (m2 (71 + 3 * i) s.length)), some (.int (m2 (71 + 3 * i) ((s.length) + 1)))]) m14_115 rfl rfl ?_
          refine g_iload m14_117 rfl ?_
          refine gs m14_119 ?_
          refine gwpc (pc' := 240) rfl ?_
          refine g_aload_n m14_240 rfl ?_
          refine h_gfR (c := 103 + 3 * i) (k := 69 + 3 * i) (p := 101 + 3 * i) m14_241 (pLo _) (tLo hi) rfl (le3 (Nat.le_of_ble_eq_true rfl)) ?_
          refine g_iload m14_244 rfl ?_
          refine g_iload_n m14_246 rfl ?_
          refine h_ias (k := 71 + 3 * i) (p := 103 + 3 * i) (j := s.length) m14_247 (pLw _) (tLw hi) (rfl) (by omega) (by omega) ?_
          refine g_goto m14_248 ?_
          refine gwl (L' := [some (.ref (101 + 3 * i)), some (.int a), some (.int b), some (.int c), some (.int (nI (s.length))), some (.int (nI q)), _, _, _, _]) rfl ?_
          refine g_iinc (L2 := [some (.ref (101 + 3 * i)), some (.int (a)), some (.int (b)), some (.int (c)), some (.int (nI ((s.length) + 1))), some (.int (nI (q))), some (.int (0)), some (.int (0)), some (.int (m2 (71 + 3 * i) s.length)), some (.int (m2 (71 + 3 * i) ((s.length) + 1)))]) m14_515 rfl (nI_1 _) rfl rfl ?_
          refine g_iinc (L2 := [some (.ref (101 + 3 * i)), some (.int (a)), some (.int (b)), some (.int (c)), some (.int (nI ((s.length) + 1))), some (.int (nI (q + 1))), some (.int (0)), some (.int (0)), some (.int (m2 (71 + 3 * i) s.length)), some (.int (m2 (71 + 3 * i) ((s.length) + 1)))]) m14_518 rfl (nI_1 _) rfl rfl ?_
          refine g_goto m14_521 ?_
          rw [ev_0] at hev
          obtain rfl := Option.some.inj hev
          exact ih (q + 1) _ _ _ _ _ _ (by omega) hs2 (by show s.length + 1 ≤ q + 1; omega) (Stk_pushE rfl rfl hst) (EqM_w hE _ _ _)
      by_cases hk1 : kk = 1
      · subst hk1
        refine g_iload m14_6 rfl ?_
        refine g_aload_n m14_8 rfl ?_
        refine h_gfR (c := 102 + 3 * i) (k := 69 + 3 * i) (p := 101 + 3 * i) m14_9 (pLo _) (tLo hi) rfl (le3 (Nat.le_of_ble_eq_true rfl)) ?_
        refine h_alen (k := 70 + 3 * i) (p := 102 + 3 * i) m14_12 (pLc _) (tLc hi) (Or.inl rfl) ?_
        refine h_ic_geF (xi := ((q : Nat) : Int)) (zi := ((ln i : Nat) : Int)) m14_13 (nI_toInt (by omega)) (nI_toInt (by omega)) (by omega) ?_
        refine g_aload_n m14_16 rfl ?_
        refine h_gfR (c := 102 + 3 * i) (k := 69 + 3 * i) (p := 101 + 3 * i) m14_17 (pLo _) (tLo hi) rfl (le3 (Nat.le_of_ble_eq_true rfl)) ?_
        refine g_iload m14_20 rfl ?_
        refine h_ial (k := 70 + 3 * i) (p := 102 + 3 * i) (j := q) m14_22 (pLc _) (tLc hi) (rfl) (by omega) (by omega) (he0) ?_
        refine g_istore (L2 := [some (.ref (101 + 3 * i)), some (.int (a)), some (.int (b)), some (.int (c)), some (.int (nI (s.length))), some (.int (nI (q))), some (.int (1)), o7, o8, o9]) m14_23 rfl rfl ?_
        refine g_iload m14_25 rfl ?_
        refine g_sipush m14_27 ?_
        refine h_ic_geF (xi := 1) (zi := 1000) m14_30 rfl rfl (by decide) ?_
        refine g_iload m14_33 rfl ?_
        refine g_iconst m14_35 ?_
        refine h_ic_geF (xi := 1) (zi := 3) m14_36 rfl rfl (by decide) ?_
        refine g_iconst m14_39 ?_
        refine g_goto m14_40 ?_
        refine g_istore (L2 := [some (.ref (101 + 3 * i)), some (.int (a)), some (.int (b)), some (.int (c)), some (.int (nI (s.length))), some (.int (nI (q))), some (.int (1)), some (.int (0)), o8, o9]) m14_55 rfl rfl ?_
        refine g_iload m14_57 rfl ?_
        refine g_iload m14_59 rfl ?_
        refine g_isub (u := nI (s.length)) m14_61 (by show nI s.length - nI 0 = nI s.length; rw [pk_sub (Nat.zero_le _), Nat.sub_zero]) ?_
        refine g_istore (L2 := [some (.ref (101 + 3 * i)), some (.int (a)), some (.int (b)), some (.int (c)), some (.int (nI (s.length))), some (.int (nI (q))), some (.int (1)), some (.int (0)), o8, o9]) m14_62 rfl rfl ?_
        refine g_iload m14_64 rfl ?_
        refine h_if_ltF (xi := ((s.length : Nat) : Int)) (zi := 0) m14_66 (nI_toInt (by omega)) rfl (by omega) ?_
        refine g_iload m14_69 rfl ?_
        refine g_aload_n m14_71 rfl ?_
        refine h_gfR (c := 103 + 3 * i) (k := 69 + 3 * i) (p := 101 + 3 * i) m14_72 (pLo _) (tLo hi) rfl (le3 (Nat.le_of_ble_eq_true rfl)) ?_
        refine h_alen (k := 71 + 3 * i) (p := 103 + 3 * i) m14_75 (pLw _) (tLw hi) (Or.inl rfl) ?_
        refine h_ic_ltT (xi := ((s.length : Nat) : Int)) (zi := ((ln i : Nat) : Int)) m14_76 (nI_toInt (by omega)) (nI_toInt (by omega)) (by omega) ?_
        refine g_aload_n m14_81 rfl ?_
        refine h_gfR (c := 103 + 3 * i) (k := 69 + 3 * i) (p := 101 + 3 * i) m14_82 (pLo _) (tLo hi) rfl (le3 (Nat.le_of_ble_eq_true rfl)) ?_
        refine g_iload m14_85 rfl ?_
        refine h_ial (k := 71 + 3 * i) (p := 103 + 3 * i) (j := s.length) m14_87 (pLw _) (tLw hi) (rfl) (by omega) (by omega) (rfl) ?_
        refine g_istore (L2 := [some (.ref (101 + 3 * i)), some (.int (a)), some (.int (b)), some (.int (c)), some (.int (nI (s.length))), some (.int (nI (q))), some (.int (1)), some (.int (0)), some (.int (m2 (71 + 3 * i) s.length)), o9]) m14_88 rfl rfl ?_
        refine g_iload m14_90 rfl ?_
        refine g_iconst m14_92 ?_
        refine g_iadd (u := nI ((s.length) + 1)) m14_93 (nI_add (s.length) 1) ?_
        refine g_aload_n m14_94 rfl ?_
        refine h_gfR (c := 103 + 3 * i) (k := 69 + 3 * i) (p := 101 + 3 * i) m14_95 (pLo _) (tLo hi) rfl (le3 (Nat.le_of_ble_eq_true rfl)) ?_
        refine h_alen (k := 71 + 3 * i) (p := 103 + 3 * i) m14_98 (pLw _) (tLw hi) (Or.inl rfl) ?_
        refine h_ic_ge (xi := (((s.length) + 1 : Nat) : Int)) (zi := ((ln i : Nat) : Int)) m14_99 (nI_toInt (by omega)) (nI_toInt (by omega)) (fun c2 => ?_) (fun c2 => ?_)
        · skip
          refine g_iconst m14_114 ?_
          refine g_istore (L2 := [some (.ref (101 + 3 * i)), some (.int (a)), some (.int (b)), some (.int (c)), some (.int (nI (s.length))), some (.int (nI (q))), some (.int (1)), some (.int (0)), some (.int (m2 (71 + 3 * i) s.length)), some (.int (0))]) m14_115 rfl rfl ?_
          refine g_iload m14_117 rfl ?_
          refine gs m14_119 ?_
          refine gwpc (pc' := 251) rfl ?_
          refine g_aload_n m14_251 rfl ?_
          refine h_gfR (c := 103 + 3 * i) (k := 69 + 3 * i) (p := 101 + 3 * i) m14_252 (pLo _) (tLo hi) rfl (le3 (Nat.le_of_ble_eq_true rfl)) ?_
          refine g_iload m14_255 rfl ?_
          refine g_iload_n m14_257 rfl ?_
          refine h_ias (k := 71 + 3 * i) (p := 103 + 3 * i) (j := s.length) m14_258 (pLw _) (tLw hi) (rfl) (by omega) (by omega) ?_
          refine g_goto m14_259 ?_
          refine gwl (L' := [some (.ref (101 + 3 * i)), some (.int a), some (.int b), some (.int c), some (.int (nI (s.length))), some (.int (nI q)), _, _, _, _]) rfl ?_
          refine g_iinc (L2 := [some (.ref (101 + 3 * i)), some (.int (a)), some (.int (b)), some (.int (c)), some (.int (nI ((s.length) + 1))), some (.int (nI (q))), some (.int (1)), some (.int (0)), some (.int (m2 (71 + 3 * i) s.length)), some (.int (0))]) m14_515 rfl (nI_1 _) rfl rfl ?_
          refine g_iinc (L2 := [some (.ref (101 + 3 * i)), some (.int (a)), some (.int (b)), some (.int (c)), some (.int (nI ((s.length) + 1))), some (.int (nI (q + 1))), some (.int (1)), some (.int (0)), some (.int (m2 (71 + 3 * i) s.length)), some (.int (0))]) m14_518 rfl (nI_1 _) rfl rfl ?_
          refine g_goto m14_521 ?_
          rw [ev_1] at hev
          obtain rfl := Option.some.inj hev
          exact ih (q + 1) _ _ _ _ _ _ (by omega) hs2 (by show s.length + 1 ≤ q + 1; omega) (Stk_pushE rfl rfl hst) (EqM_w hE _ _ _)
        · skip
          refine g_aload_n m14_102 rfl ?_
          refine h_gfR (c := 103 + 3 * i) (k := 69 + 3 * i) (p := 101 + 3 * i) m14_103 (pLo _) (tLo hi) rfl (le3 (Nat.le_of_ble_eq_true rfl)) ?_
          refine g_iload m14_106 rfl ?_
          refine g_iconst m14_108 ?_
          refine g_iadd (u := nI ((s.length) + 1)) m14_109 (nI_add (s.length) 1) ?_
          refine h_ial (k := 71 + 3 * i) (p := 103 + 3 * i) (j := (s.length) + 1) m14_110 (pLw _) (tLw hi) (rfl) (by omega) (by omega) (rfl) ?_
          refine g_goto m14_111 ?_
          refine g_istore (L2 := [some (.ref (101 + 3 * i)), some (.int (a)), some (.int (b)), some (.int (c)), some (.int (nI (s.length))), some (.int (nI (q))), some (.int (1)), some (.int (0)), some (.int (m2 (71 + 3 * i) s.length)), some (.int (m2 (71 + 3 * i) ((s.length) + 1)))]) m14_115 rfl rfl ?_
          refine g_iload m14_117 rfl ?_
          refine gs m14_119 ?_
          refine gwpc (pc' := 251) rfl ?_
          refine g_aload_n m14_251 rfl ?_
          refine h_gfR (c := 103 + 3 * i) (k := 69 + 3 * i) (p := 101 + 3 * i) m14_252 (pLo _) (tLo hi) rfl (le3 (Nat.le_of_ble_eq_true rfl)) ?_
          refine g_iload m14_255 rfl ?_
          refine g_iload_n m14_257 rfl ?_
          refine h_ias (k := 71 + 3 * i) (p := 103 + 3 * i) (j := s.length) m14_258 (pLw _) (tLw hi) (rfl) (by omega) (by omega) ?_
          refine g_goto m14_259 ?_
          refine gwl (L' := [some (.ref (101 + 3 * i)), some (.int a), some (.int b), some (.int c), some (.int (nI (s.length))), some (.int (nI q)), _, _, _, _]) rfl ?_
          refine g_iinc (L2 := [some (.ref (101 + 3 * i)), some (.int (a)), some (.int (b)), some (.int (c)), some (.int (nI ((s.length) + 1))), some (.int (nI (q))), some (.int (1)), some (.int (0)), some (.int (m2 (71 + 3 * i) s.length)), some (.int (m2 (71 + 3 * i) ((s.length) + 1)))]) m14_515 rfl (nI_1 _) rfl rfl ?_
          refine g_iinc (L2 := [some (.ref (101 + 3 * i)), some (.int (a)), some (.int (b)), some (.int (c)), some (.int (nI ((s.length) + 1))), some (.int (nI (q + 1))), some (.int (1)), some (.int (0)), some (.int (m2 (71 + 3 * i) s.length)), some (.int (m2 (71 + 3 * i) ((s.length) + 1)))]) m14_518 rfl (nI_1 _) rfl rfl ?_
          refine g_goto m14_521 ?_
          rw [ev_1] at hev
          obtain rfl := Option.some.inj hev
          exact ih (q + 1) _ _ _ _ _ _ (by omega) hs2 (by show s.length + 1 ≤ q + 1; omega) (Stk_pushE rfl rfl hst) (EqM_w hE _ _ _)
      by_cases hk2 : kk = 2
      · subst hk2
        refine g_iload m14_6 rfl ?_
        refine g_aload_n m14_8 rfl ?_
        refine h_gfR (c := 102 + 3 * i) (k := 69 + 3 * i) (p := 101 + 3 * i) m14_9 (pLo _) (tLo hi) rfl (le3 (Nat.le_of_ble_eq_true rfl)) ?_
        refine h_alen (k := 70 + 3 * i) (p := 102 + 3 * i) m14_12 (pLc _) (tLc hi) (Or.inl rfl) ?_
        refine h_ic_geF (xi := ((q : Nat) : Int)) (zi := ((ln i : Nat) : Int)) m14_13 (nI_toInt (by omega)) (nI_toInt (by omega)) (by omega) ?_
        refine g_aload_n m14_16 rfl ?_
        refine h_gfR (c := 102 + 3 * i) (k := 69 + 3 * i) (p := 101 + 3 * i) m14_17 (pLo _) (tLo hi) rfl (le3 (Nat.le_of_ble_eq_true rfl)) ?_
        refine g_iload m14_20 rfl ?_
        refine h_ial (k := 70 + 3 * i) (p := 102 + 3 * i) (j := q) m14_22 (pLc _) (tLc hi) (rfl) (by omega) (by omega) (he0) ?_
        refine g_istore (L2 := [some (.ref (101 + 3 * i)), some (.int (a)), some (.int (b)), some (.int (c)), some (.int (nI (s.length))), some (.int (nI (q))), some (.int (2)), o7, o8, o9]) m14_23 rfl rfl ?_
        refine g_iload m14_25 rfl ?_
        refine g_sipush m14_27 ?_
        refine h_ic_geF (xi := 2) (zi := 1000) m14_30 rfl rfl (by decide) ?_
        refine g_iload m14_33 rfl ?_
        refine g_iconst m14_35 ?_
        refine h_ic_geF (xi := 2) (zi := 3) m14_36 rfl rfl (by decide) ?_
        refine g_iconst m14_39 ?_
        refine g_goto m14_40 ?_
        refine g_istore (L2 := [some (.ref (101 + 3 * i)), some (.int (a)), some (.int (b)), some (.int (c)), some (.int (nI (s.length))), some (.int (nI (q))), some (.int (2)), some (.int (0)), o8, o9]) m14_55 rfl rfl ?_
        refine g_iload m14_57 rfl ?_
        refine g_iload m14_59 rfl ?_
        refine g_isub (u := nI (s.length)) m14_61 (by show nI s.length - nI 0 = nI s.length; rw [pk_sub (Nat.zero_le _), Nat.sub_zero]) ?_
        refine g_istore (L2 := [some (.ref (101 + 3 * i)), some (.int (a)), some (.int (b)), some (.int (c)), some (.int (nI (s.length))), some (.int (nI (q))), some (.int (2)), some (.int (0)), o8, o9]) m14_62 rfl rfl ?_
        refine g_iload m14_64 rfl ?_
        refine h_if_ltF (xi := ((s.length : Nat) : Int)) (zi := 0) m14_66 (nI_toInt (by omega)) rfl (by omega) ?_
        refine g_iload m14_69 rfl ?_
        refine g_aload_n m14_71 rfl ?_
        refine h_gfR (c := 103 + 3 * i) (k := 69 + 3 * i) (p := 101 + 3 * i) m14_72 (pLo _) (tLo hi) rfl (le3 (Nat.le_of_ble_eq_true rfl)) ?_
        refine h_alen (k := 71 + 3 * i) (p := 103 + 3 * i) m14_75 (pLw _) (tLw hi) (Or.inl rfl) ?_
        refine h_ic_ltT (xi := ((s.length : Nat) : Int)) (zi := ((ln i : Nat) : Int)) m14_76 (nI_toInt (by omega)) (nI_toInt (by omega)) (by omega) ?_
        refine g_aload_n m14_81 rfl ?_
        refine h_gfR (c := 103 + 3 * i) (k := 69 + 3 * i) (p := 101 + 3 * i) m14_82 (pLo _) (tLo hi) rfl (le3 (Nat.le_of_ble_eq_true rfl)) ?_
        refine g_iload m14_85 rfl ?_
        refine h_ial (k := 71 + 3 * i) (p := 103 + 3 * i) (j := s.length) m14_87 (pLw _) (tLw hi) (rfl) (by omega) (by omega) (rfl) ?_
        refine g_istore (L2 := [some (.ref (101 + 3 * i)), some (.int (a)), some (.int (b)), some (.int (c)), some (.int (nI (s.length))), some (.int (nI (q))), some (.int (2)), some (.int (0)), some (.int (m2 (71 + 3 * i) s.length)), o9]) m14_88 rfl rfl ?_
        refine g_iload m14_90 rfl ?_
        refine g_iconst m14_92 ?_
        refine g_iadd (u := nI ((s.length) + 1)) m14_93 (nI_add (s.length) 1) ?_
        refine g_aload_n m14_94 rfl ?_
        refine h_gfR (c := 103 + 3 * i) (k := 69 + 3 * i) (p := 101 + 3 * i) m14_95 (pLo _) (tLo hi) rfl (le3 (Nat.le_of_ble_eq_true rfl)) ?_
        refine h_alen (k := 71 + 3 * i) (p := 103 + 3 * i) m14_98 (pLw _) (tLw hi) (Or.inl rfl) ?_
        refine h_ic_ge (xi := (((s.length) + 1 : Nat) : Int)) (zi := ((ln i : Nat) : Int)) m14_99 (nI_toInt (by omega)) (nI_toInt (by omega)) (fun c3 => ?_) (fun c3 => ?_)
        · skip
          refine g_iconst m14_114 ?_
          refine g_istore (L2 := [some (.ref (101 + 3 * i)), some (.int (a)), some (.int (b)), some (.int (c)), some (.int (nI (s.length))), some (.int (nI (q))), some (.int (2)), some (.int (0)), some (.int (m2 (71 + 3 * i) s.length)), some (.int (0))]) m14_115 rfl rfl ?_
          refine g_iload m14_117 rfl ?_
          refine gs m14_119 ?_
          refine gwpc (pc' := 262) rfl ?_
          refine g_aload_n m14_262 rfl ?_
          refine h_gfR (c := 103 + 3 * i) (k := 69 + 3 * i) (p := 101 + 3 * i) m14_263 (pLo _) (tLo hi) rfl (le3 (Nat.le_of_ble_eq_true rfl)) ?_
          refine g_iload m14_266 rfl ?_
          refine g_iload_n m14_268 rfl ?_
          refine h_ias (k := 71 + 3 * i) (p := 103 + 3 * i) (j := s.length) m14_269 (pLw _) (tLw hi) (rfl) (by omega) (by omega) ?_
          refine g_goto m14_270 ?_
          refine gwl (L' := [some (.ref (101 + 3 * i)), some (.int a), some (.int b), some (.int c), some (.int (nI (s.length))), some (.int (nI q)), _, _, _, _]) rfl ?_
          refine g_iinc (L2 := [some (.ref (101 + 3 * i)), some (.int (a)), some (.int (b)), some (.int (c)), some (.int (nI ((s.length) + 1))), some (.int (nI (q))), some (.int (2)), some (.int (0)), some (.int (m2 (71 + 3 * i) s.length)), some (.int (0))]) m14_515 rfl (nI_1 _) rfl rfl ?_
          refine g_iinc (L2 := [some (.ref (101 + 3 * i)), some (.int (a)), some (.int (b)), some (.int (c)), some (.int (nI ((s.length) + 1))), some (.int (nI (q + 1))), some (.int (2)), some (.int (0)), some (.int (m2 (71 + 3 * i) s.length)), some (.int (0))]) m14_518 rfl (nI_1 _) rfl rfl ?_
          refine g_goto m14_521 ?_
          rw [ev_2] at hev
          obtain rfl := Option.some.inj hev
          exact ih (q + 1) _ _ _ _ _ _ (by omega) hs2 (by show s.length + 1 ≤ q + 1; omega) (Stk_pushE rfl rfl hst) (EqM_w hE _ _ _)
        · skip
          refine g_aload_n m14_102 rfl ?_
          refine h_gfR (c := 103 + 3 * i) (k := 69 + 3 * i) (p := 101 + 3 * i) m14_103 (pLo _) (tLo hi) rfl (le3 (Nat.le_of_ble_eq_true rfl)) ?_
          refine g_iload m14_106 rfl ?_
          refine g_iconst m14_108 ?_
          refine g_iadd (u := nI ((s.length) + 1)) m14_109 (nI_add (s.length) 1) ?_
          refine h_ial (k := 71 + 3 * i) (p := 103 + 3 * i) (j := (s.length) + 1) m14_110 (pLw _) (tLw hi) (rfl) (by omega) (by omega) (rfl) ?_
          refine g_goto m14_111 ?_
          refine g_istore (L2 := [some (.ref (101 + 3 * i)), some (.int (a)), some (.int (b)), some (.int (c)), some (.int (nI (s.length))), some (.int (nI (q))), some (.int (2)), some (.int (0)), some (.int (m2 (71 + 3 * i) s.length)), some (.int (m2 (71 + 3 * i) ((s.length) + 1)))]) m14_115 rfl rfl ?_
          refine g_iload m14_117 rfl ?_
          refine gs m14_119 ?_
          refine gwpc (pc' := 262) rfl ?_
          refine g_aload_n m14_262 rfl ?_
          refine h_gfR (c := 103 + 3 * i) (k := 69 + 3 * i) (p := 101 + 3 * i) m14_263 (pLo _) (tLo hi) rfl (le3 (Nat.le_of_ble_eq_true rfl)) ?_
          refine g_iload m14_266 rfl ?_
          refine g_iload_n m14_268 rfl ?_
          refine h_ias (k := 71 + 3 * i) (p := 103 + 3 * i) (j := s.length) m14_269 (pLw _) (tLw hi) (rfl) (by omega) (by omega) ?_
          refine g_goto m14_270 ?_
          refine gwl (L' := [some (.ref (101 + 3 * i)), some (.int a), some (.int b), some (.int c), some (.int (nI (s.length))), some (.int (nI q)), _, _, _, _]) rfl ?_
          refine g_iinc (L2 := [some (.ref (101 + 3 * i)), some (.int (a)), some (.int (b)), some (.int (c)), some (.int (nI ((s.length) + 1))), some (.int (nI (q))), some (.int (2)), some (.int (0)), some (.int (m2 (71 + 3 * i) s.length)), some (.int (m2 (71 + 3 * i) ((s.length) + 1)))]) m14_515 rfl (nI_1 _) rfl rfl ?_
          refine g_iinc (L2 := [some (.ref (101 + 3 * i)), some (.int (a)), some (.int (b)), some (.int (c)), some (.int (nI ((s.length) + 1))), some (.int (nI (q + 1))), some (.int (2)), some (.int (0)), some (.int (m2 (71 + 3 * i) s.length)), some (.int (m2 (71 + 3 * i) ((s.length) + 1)))]) m14_518 rfl (nI_1 _) rfl rfl ?_
          refine g_goto m14_521 ?_
          rw [ev_2] at hev
          obtain rfl := Option.some.inj hev
          exact ih (q + 1) _ _ _ _ _ _ (by omega) hs2 (by show s.length + 1 ≤ q + 1; omega) (Stk_pushE rfl rfl hst) (EqM_w hE _ _ _)
      by_cases hk33 : kk = 33
      · subst hk33
        match s, hl, hst, hev with
        | [], _, _, hev => cases hev
        | p :: r, hl, hst, hev =>
          have hl2 : r.length + 1 ≤ q := hl
          refine g_iload m14_6 rfl ?_
          refine g_aload_n m14_8 rfl ?_
          refine h_gfR (c := 102 + 3 * i) (k := 69 + 3 * i) (p := 101 + 3 * i) m14_9 (pLo _) (tLo hi) rfl (le3 (Nat.le_of_ble_eq_true rfl)) ?_
          refine h_alen (k := 70 + 3 * i) (p := 102 + 3 * i) m14_12 (pLc _) (tLc hi) (Or.inl rfl) ?_
          refine h_ic_geF (xi := ((q : Nat) : Int)) (zi := ((ln i : Nat) : Int)) m14_13 (nI_toInt (by omega)) (nI_toInt (by omega)) (by omega) ?_
          refine g_aload_n m14_16 rfl ?_
          refine h_gfR (c := 102 + 3 * i) (k := 69 + 3 * i) (p := 101 + 3 * i) m14_17 (pLo _) (tLo hi) rfl (le3 (Nat.le_of_ble_eq_true rfl)) ?_
          refine g_iload m14_20 rfl ?_
          refine h_ial (k := 70 + 3 * i) (p := 102 + 3 * i) (j := q) m14_22 (pLc _) (tLc hi) (rfl) (by omega) (by omega) (he0) ?_
          refine g_istore (L2 := [some (.ref (101 + 3 * i)), some (.int (a)), some (.int (b)), some (.int (c)), some (.int (nI ((p :: r).length))), some (.int (nI (q))), some (.int (33)), o7, o8, o9]) m14_23 rfl rfl ?_
          refine g_iload m14_25 rfl ?_
          refine g_sipush m14_27 ?_
          refine h_ic_geF (xi := 33) (zi := 1000) m14_30 rfl rfl (by decide) ?_
          refine g_iload m14_33 rfl ?_
          refine g_iconst m14_35 ?_
          refine h_ic_geT (xi := 33) (zi := 3) m14_36 rfl rfl (by decide) ?_
          refine g_iload m14_43 rfl ?_
          refine g_bipush m14_45 ?_
          refine h_ic_neT (xi := 33) (zi := 33) m14_47 rfl rfl (by decide) ?_
          refine g_iconst m14_50 ?_
          refine g_goto m14_51 ?_
          refine g_istore (L2 := [some (.ref (101 + 3 * i)), some (.int (a)), some (.int (b)), some (.int (c)), some (.int (nI ((p :: r).length))), some (.int (nI (q))), some (.int (33)), some (.int (1)), o8, o9]) m14_55 rfl rfl ?_
          refine g_iload m14_57 rfl ?_
          refine g_iload m14_59 rfl ?_
          refine g_isub (u := nI (r.length)) m14_61 (pk_sub (a := r.length + 1) (b := 1) (by omega)) ?_
          refine g_istore (L2 := [some (.ref (101 + 3 * i)), some (.int (a)), some (.int (b)), some (.int (c)), some (.int (nI (r.length))), some (.int (nI (q))), some (.int (33)), some (.int (1)), o8, o9]) m14_62 rfl rfl ?_
          refine g_iload m14_64 rfl ?_
          refine h_if_ltF (xi := ((r.length : Nat) : Int)) (zi := 0) m14_66 (nI_toInt (by omega)) rfl (by omega) ?_
          refine g_iload m14_69 rfl ?_
          refine g_aload_n m14_71 rfl ?_
          refine h_gfR (c := 103 + 3 * i) (k := 69 + 3 * i) (p := 101 + 3 * i) m14_72 (pLo _) (tLo hi) rfl (le3 (Nat.le_of_ble_eq_true rfl)) ?_
          refine h_alen (k := 71 + 3 * i) (p := 103 + 3 * i) m14_75 (pLw _) (tLw hi) (Or.inl rfl) ?_
          refine h_ic_ltT (xi := ((r.length : Nat) : Int)) (zi := ((ln i : Nat) : Int)) m14_76 (nI_toInt (by omega)) (nI_toInt (by omega)) (by omega) ?_
          refine g_aload_n m14_81 rfl ?_
          refine h_gfR (c := 103 + 3 * i) (k := 69 + 3 * i) (p := 101 + 3 * i) m14_82 (pLo _) (tLo hi) rfl (le3 (Nat.le_of_ble_eq_true rfl)) ?_
          refine g_iload m14_85 rfl ?_
          refine h_ial (k := 71 + 3 * i) (p := 103 + 3 * i) (j := r.length) m14_87 (pLw _) (tLw hi) (rfl) (by omega) (by omega) (hst.1) ?_
          refine g_istore (L2 := [some (.ref (101 + 3 * i)), some (.int (a)), some (.int (b)), some (.int (c)), some (.int (nI (r.length))), some (.int (nI (q))), some (.int (33)), some (.int (1)), some (.int (p)), o9]) m14_88 rfl rfl ?_
          refine g_iload m14_90 rfl ?_
          refine g_iconst m14_92 ?_
          refine g_iadd (u := nI ((r.length) + 1)) m14_93 (nI_add (r.length) 1) ?_
          refine g_aload_n m14_94 rfl ?_
          refine h_gfR (c := 103 + 3 * i) (k := 69 + 3 * i) (p := 101 + 3 * i) m14_95 (pLo _) (tLo hi) rfl (le3 (Nat.le_of_ble_eq_true rfl)) ?_
          refine h_alen (k := 71 + 3 * i) (p := 103 + 3 * i) m14_98 (pLw _) (tLw hi) (Or.inl rfl) ?_
          refine h_ic_ge (xi := (((r.length) + 1 : Nat) : Int)) (zi := ((ln i : Nat) : Int)) m14_99 (nI_toInt (by omega)) (nI_toInt (by omega)) (fun c4 => ?_) (fun c4 => ?_)
          · skip
            refine g_iconst m14_114 ?_
            refine g_istore (L2 := [some (.ref (101 + 3 * i)), some (.int (a)), some (.int (b)), some (.int (c)), some (.int (nI (r.length))), some (.int (nI (q))), some (.int (33)), some (.int (1)), some (.int (p)), some (.int (0))]) m14_115 rfl rfl ?_
            refine g_iload m14_117 rfl ?_
            refine gs m14_119 ?_
            refine gwpc (pc' := 273) rfl ?_
            refine g_aload_n m14_273 rfl ?_
            refine h_gfR (c := 103 + 3 * i) (k := 69 + 3 * i) (p := 101 + 3 * i) m14_274 (pLo _) (tLo hi) rfl (le3 (Nat.le_of_ble_eq_true rfl)) ?_
            refine g_iload m14_277 rfl ?_
            refine g_iload m14_279 rfl ?_
            refine h_if_ne (xi := _) (zi := 0) m14_281 rfl rfl (fun c5 => ?_) (fun c5 => ?_)
            · skip
              refine g_iconst m14_284 ?_
              refine g_goto m14_285 ?_
              refine h_ias (k := 71 + 3 * i) (p := 103 + 3 * i) (j := r.length) m14_289 (pLw _) (tLw hi) (rfl) (by omega) (by omega) ?_
              refine g_goto m14_290 ?_
              refine gwl (L' := [some (.ref (101 + 3 * i)), some (.int a), some (.int b), some (.int c), some (.int (nI (r.length))), some (.int (nI q)), _, _, _, _]) rfl ?_
              refine g_iinc (L2 := [some (.ref (101 + 3 * i)), some (.int (a)), some (.int (b)), some (.int (c)), some (.int (nI ((r.length) + 1))), some (.int (nI (q))), some (.int (33)), some (.int (1)), some (.int (p)), some (.int (0))]) m14_515 rfl (nI_1 _) rfl rfl ?_
              refine g_iinc (L2 := [some (.ref (101 + 3 * i)), some (.int (a)), some (.int (b)), some (.int (c)), some (.int (nI ((r.length) + 1))), some (.int (nI (q + 1))), some (.int (33)), some (.int (1)), some (.int (p)), some (.int (0))]) m14_518 rfl (nI_1 _) rfl rfl ?_
              refine g_goto m14_521 ?_
              rw [ev_33] at hev
              obtain rfl := Option.some.inj hev
              exact ih (q + 1) _ _ _ _ _ _ (by omega) hs2 (by show r.length + 1 ≤ q + 1; omega) (Stk_pushE (by simp [c4, c5]) rfl hst.2) (EqM_w hE _ _ _)
            · skip
              refine g_iconst m14_288 ?_
              refine h_ias (k := 71 + 3 * i) (p := 103 + 3 * i) (j := r.length) m14_289 (pLw _) (tLw hi) (rfl) (by omega) (by omega) ?_
              refine g_goto m14_290 ?_
              refine gwl (L' := [some (.ref (101 + 3 * i)), some (.int a), some (.int b), some (.int c), some (.int (nI (r.length))), some (.int (nI q)), _, _, _, _]) rfl ?_
              refine g_iinc (L2 := [some (.ref (101 + 3 * i)), some (.int (a)), some (.int (b)), some (.int (c)), some (.int (nI ((r.length) + 1))), some (.int (nI (q))), some (.int (33)), some (.int (1)), some (.int (p)), some (.int (0))]) m14_515 rfl (nI_1 _) rfl rfl ?_
              refine g_iinc (L2 := [some (.ref (101 + 3 * i)), some (.int (a)), some (.int (b)), some (.int (c)), some (.int (nI ((r.length) + 1))), some (.int (nI (q + 1))), some (.int (33)), some (.int (1)), some (.int (p)), some (.int (0))]) m14_518 rfl (nI_1 _) rfl rfl ?_
              refine g_goto m14_521 ?_
              rw [ev_33] at hev
              obtain rfl := Option.some.inj hev
              exact ih (q + 1) _ _ _ _ _ _ (by omega) hs2 (by show r.length + 1 ≤ q + 1; omega) (Stk_pushE (by simp [c4, c5]) rfl hst.2) (EqM_w hE _ _ _)
          · skip
            refine g_aload_n m14_102 rfl ?_
            refine h_gfR (c := 103 + 3 * i) (k := 69 + 3 * i) (p := 101 + 3 * i) m14_103 (pLo _) (tLo hi) rfl (le3 (Nat.le_of_ble_eq_true rfl)) ?_
            refine g_iload m14_106 rfl ?_
            refine g_iconst m14_108 ?_
            refine g_iadd (u := nI ((r.length) + 1)) m14_109 (nI_add (r.length) 1) ?_
            refine h_ial (k := 71 + 3 * i) (p := 103 + 3 * i) (j := (r.length) + 1) m14_110 (pLw _) (tLw hi) (rfl) (by omega) (by omega) (rfl) ?_
            refine g_goto m14_111 ?_
            refine g_istore (L2 := [some (.ref (101 + 3 * i)), some (.int (a)), some (.int (b)), some (.int (c)), some (.int (nI (r.length))), some (.int (nI (q))), some (.int (33)), some (.int (1)), some (.int (p)), some (.int (m2 (71 + 3 * i) ((r.length) + 1)))]) m14_115 rfl rfl ?_
            refine g_iload m14_117 rfl ?_
            refine gs m14_119 ?_
            refine gwpc (pc' := 273) rfl ?_
            refine g_aload_n m14_273 rfl ?_
            refine h_gfR (c := 103 + 3 * i) (k := 69 + 3 * i) (p := 101 + 3 * i) m14_274 (pLo _) (tLo hi) rfl (le3 (Nat.le_of_ble_eq_true rfl)) ?_
            refine g_iload m14_277 rfl ?_
            refine g_iload m14_279 rfl ?_
            refine h_if_ne (xi := _) (zi := 0) m14_281 rfl rfl (fun c6 => ?_) (fun c6 => ?_)
            · skip
              refine g_iconst m14_284 ?_
              refine g_goto m14_285 ?_
              refine h_ias (k := 71 + 3 * i) (p := 103 + 3 * i) (j := r.length) m14_289 (pLw _) (tLw hi) (rfl) (by omega) (by omega) ?_
              refine g_goto m14_290 ?_
              refine gwl (L' := [some (.ref (101 + 3 * i)), some (.int a), some (.int b), some (.int c), some (.int (nI (r.length))), some (.int (nI q)), _, _, _, _]) rfl ?_
              refine g_iinc (L2 := [some (.ref (101 + 3 * i)), some (.int (a)), some (.int (b)), some (.int (c)), some (.int (nI ((r.length) + 1))), some (.int (nI (q))), some (.int (33)), some (.int (1)), some (.int (p)), some (.int (m2 (71 + 3 * i) ((r.length) + 1)))]) m14_515 rfl (nI_1 _) rfl rfl ?_
              refine g_iinc (L2 := [some (.ref (101 + 3 * i)), some (.int (a)), some (.int (b)), some (.int (c)), some (.int (nI ((r.length) + 1))), some (.int (nI (q + 1))), some (.int (33)), some (.int (1)), some (.int (p)), some (.int (m2 (71 + 3 * i) ((r.length) + 1)))]) m14_518 rfl (nI_1 _) rfl rfl ?_
              refine g_goto m14_521 ?_
              rw [ev_33] at hev
              obtain rfl := Option.some.inj hev
              exact ih (q + 1) _ _ _ _ _ _ (by omega) hs2 (by show r.length + 1 ≤ q + 1; omega) (Stk_pushE (by simp [c4, c6]) rfl hst.2) (EqM_w hE _ _ _)
            · skip
              refine g_iconst m14_288 ?_
              refine h_ias (k := 71 + 3 * i) (p := 103 + 3 * i) (j := r.length) m14_289 (pLw _) (tLw hi) (rfl) (by omega) (by omega) ?_
              refine g_goto m14_290 ?_
              refine gwl (L' := [some (.ref (101 + 3 * i)), some (.int a), some (.int b), some (.int c), some (.int (nI (r.length))), some (.int (nI q)), _, _, _, _]) rfl ?_
              refine g_iinc (L2 := [some (.ref (101 + 3 * i)), some (.int (a)), some (.int (b)), some (.int (c)), some (.int (nI ((r.length) + 1))), some (.int (nI (q))), some (.int (33)), some (.int (1)), some (.int (p)), some (.int (m2 (71 + 3 * i) ((r.length) + 1)))]) m14_515 rfl (nI_1 _) rfl rfl ?_
              refine g_iinc (L2 := [some (.ref (101 + 3 * i)), some (.int (a)), some (.int (b)), some (.int (c)), some (.int (nI ((r.length) + 1))), some (.int (nI (q + 1))), some (.int (33)), some (.int (1)), some (.int (p)), some (.int (m2 (71 + 3 * i) ((r.length) + 1)))]) m14_518 rfl (nI_1 _) rfl rfl ?_
              refine g_goto m14_521 ?_
              rw [ev_33] at hev
              obtain rfl := Option.some.inj hev
              exact ih (q + 1) _ _ _ _ _ _ (by omega) hs2 (by show r.length + 1 ≤ q + 1; omega) (Stk_pushE (by simp [c4, c6]) rfl hst.2) (EqM_w hE _ _ _)
      by_cases hk43 : kk = 43
      · subst hk43
        match s, hl, hst, hev with
        | [], _, _, hev => cases hev
        | [_], _, _, hev => cases hev
        | y :: x :: r, hl, hst, hev =>
          have hl2 : r.length + 1 + 1 ≤ q := hl
          refine g_iload m14_6 rfl ?_
          refine g_aload_n m14_8 rfl ?_
          refine h_gfR (c := 102 + 3 * i) (k := 69 + 3 * i) (p := 101 + 3 * i) m14_9 (pLo _) (tLo hi) rfl (le3 (Nat.le_of_ble_eq_true rfl)) ?_
          refine h_alen (k := 70 + 3 * i) (p := 102 + 3 * i) m14_12 (pLc _) (tLc hi) (Or.inl rfl) ?_
          refine h_ic_geF (xi := ((q : Nat) : Int)) (zi := ((ln i : Nat) : Int)) m14_13 (nI_toInt (by omega)) (nI_toInt (by omega)) (by omega) ?_
          refine g_aload_n m14_16 rfl ?_
          refine h_gfR (c := 102 + 3 * i) (k := 69 + 3 * i) (p := 101 + 3 * i) m14_17 (pLo _) (tLo hi) rfl (le3 (Nat.le_of_ble_eq_true rfl)) ?_
          refine g_iload m14_20 rfl ?_
          refine h_ial (k := 70 + 3 * i) (p := 102 + 3 * i) (j := q) m14_22 (pLc _) (tLc hi) (rfl) (by omega) (by omega) (he0) ?_
          refine g_istore (L2 := [some (.ref (101 + 3 * i)), some (.int (a)), some (.int (b)), some (.int (c)), some (.int (nI ((y :: x :: r).length))), some (.int (nI (q))), some (.int (43)), o7, o8, o9]) m14_23 rfl rfl ?_
          refine g_iload m14_25 rfl ?_
          refine g_sipush m14_27 ?_
          refine h_ic_geF (xi := 43) (zi := 1000) m14_30 rfl rfl (by decide) ?_
          refine g_iload m14_33 rfl ?_
          refine g_iconst m14_35 ?_
          refine h_ic_geT (xi := 43) (zi := 3) m14_36 rfl rfl (by decide) ?_
          refine g_iload m14_43 rfl ?_
          refine g_bipush m14_45 ?_
          refine h_ic_neF (xi := 43) (zi := 33) m14_47 rfl rfl (by decide) ?_
          refine g_iconst m14_54 ?_
          refine g_istore (L2 := [some (.ref (101 + 3 * i)), some (.int (a)), some (.int (b)), some (.int (c)), some (.int (nI ((y :: x :: r).length))), some (.int (nI (q))), some (.int (43)), some (.int (2)), o8, o9]) m14_55 rfl rfl ?_
          refine g_iload m14_57 rfl ?_
          refine g_iload m14_59 rfl ?_
          refine g_isub (u := nI (r.length)) m14_61 (pk_sub (a := r.length + 1 + 1) (b := 2) (by omega)) ?_
          refine g_istore (L2 := [some (.ref (101 + 3 * i)), some (.int (a)), some (.int (b)), some (.int (c)), some (.int (nI (r.length))), some (.int (nI (q))), some (.int (43)), some (.int (2)), o8, o9]) m14_62 rfl rfl ?_
          refine g_iload m14_64 rfl ?_
          refine h_if_ltF (xi := ((r.length : Nat) : Int)) (zi := 0) m14_66 (nI_toInt (by omega)) rfl (by omega) ?_
          refine g_iload m14_69 rfl ?_
          refine g_aload_n m14_71 rfl ?_
          refine h_gfR (c := 103 + 3 * i) (k := 69 + 3 * i) (p := 101 + 3 * i) m14_72 (pLo _) (tLo hi) rfl (le3 (Nat.le_of_ble_eq_true rfl)) ?_
          refine h_alen (k := 71 + 3 * i) (p := 103 + 3 * i) m14_75 (pLw _) (tLw hi) (Or.inl rfl) ?_
          refine h_ic_ltT (xi := ((r.length : Nat) : Int)) (zi := ((ln i : Nat) : Int)) m14_76 (nI_toInt (by omega)) (nI_toInt (by omega)) (by omega) ?_
          refine g_aload_n m14_81 rfl ?_
          refine h_gfR (c := 103 + 3 * i) (k := 69 + 3 * i) (p := 101 + 3 * i) m14_82 (pLo _) (tLo hi) rfl (le3 (Nat.le_of_ble_eq_true rfl)) ?_
          refine g_iload m14_85 rfl ?_
          refine h_ial (k := 71 + 3 * i) (p := 103 + 3 * i) (j := r.length) m14_87 (pLw _) (tLw hi) (rfl) (by omega) (by omega) (hst.2.1) ?_
          refine g_istore (L2 := [some (.ref (101 + 3 * i)), some (.int (a)), some (.int (b)), some (.int (c)), some (.int (nI (r.length))), some (.int (nI (q))), some (.int (43)), some (.int (2)), some (.int (x)), o9]) m14_88 rfl rfl ?_
          refine g_iload m14_90 rfl ?_
          refine g_iconst m14_92 ?_
          refine g_iadd (u := nI ((r.length) + 1)) m14_93 (nI_add (r.length) 1) ?_
          refine g_aload_n m14_94 rfl ?_
          refine h_gfR (c := 103 + 3 * i) (k := 69 + 3 * i) (p := 101 + 3 * i) m14_95 (pLo _) (tLo hi) rfl (le3 (Nat.le_of_ble_eq_true rfl)) ?_
          refine h_alen (k := 71 + 3 * i) (p := 103 + 3 * i) m14_98 (pLw _) (tLw hi) (Or.inl rfl) ?_
          refine h_ic_geF (xi := (((r.length) + 1 : Nat) : Int)) (zi := ((ln i : Nat) : Int)) m14_99 (nI_toInt (by omega)) (nI_toInt (by omega)) (by omega) ?_
          refine g_aload_n m14_102 rfl ?_
          refine h_gfR (c := 103 + 3 * i) (k := 69 + 3 * i) (p := 101 + 3 * i) m14_103 (pLo _) (tLo hi) rfl (le3 (Nat.le_of_ble_eq_true rfl)) ?_
          refine g_iload m14_106 rfl ?_
          refine g_iconst m14_108 ?_
          refine g_iadd (u := nI ((r.length) + 1)) m14_109 (nI_add (r.length) 1) ?_
          refine h_ial (k := 71 + 3 * i) (p := 103 + 3 * i) (j := r.length + 1) m14_110 (pLw _) (tLw hi) (rfl) (by omega) (by omega) (hst.1) ?_
          refine g_goto m14_111 ?_
          refine g_istore (L2 := [some (.ref (101 + 3 * i)), some (.int (a)), some (.int (b)), some (.int (c)), some (.int (nI (r.length))), some (.int (nI (q))), some (.int (43)), some (.int (2)), some (.int (x)), some (.int (y))]) m14_115 rfl rfl ?_
          refine g_iload m14_117 rfl ?_
          refine gs m14_119 ?_
          refine gwpc (pc' := 293) rfl ?_
          refine g_aload_n m14_293 rfl ?_
          refine h_gfR (c := 103 + 3 * i) (k := 69 + 3 * i) (p := 101 + 3 * i) m14_294 (pLo _) (tLo hi) rfl (le3 (Nat.le_of_ble_eq_true rfl)) ?_
          refine g_iload m14_297 rfl ?_
          refine g_iload m14_299 rfl ?_
          refine g_iload m14_301 rfl ?_
          refine g_iadd m14_303 rfl ?_
          refine h_ias (k := 71 + 3 * i) (p := 103 + 3 * i) (j := r.length) m14_304 (pLw _) (tLw hi) (rfl) (by omega) (by omega) ?_
          refine g_goto m14_305 ?_
          refine gwl (L' := [some (.ref (101 + 3 * i)), some (.int a), some (.int b), some (.int c), some (.int (nI (r.length))), some (.int (nI q)), _, _, _, _]) rfl ?_
          refine g_iinc (L2 := [some (.ref (101 + 3 * i)), some (.int (a)), some (.int (b)), some (.int (c)), some (.int (nI ((r.length) + 1))), some (.int (nI (q))), some (.int (43)), some (.int (2)), some (.int (x)), some (.int (y))]) m14_515 rfl (nI_1 _) rfl rfl ?_
          refine g_iinc (L2 := [some (.ref (101 + 3 * i)), some (.int (a)), some (.int (b)), some (.int (c)), some (.int (nI ((r.length) + 1))), some (.int (nI (q + 1))), some (.int (43)), some (.int (2)), some (.int (x)), some (.int (y))]) m14_518 rfl (nI_1 _) rfl rfl ?_
          refine g_goto m14_521 ?_
          rw [ev_43] at hev
          obtain rfl := Option.some.inj hev
          exact ih (q + 1) _ _ _ _ _ _ (by omega) hs2 (by show r.length + 1 ≤ q + 1; omega) (Stk_pushE rfl rfl hst.2.2) (EqM_w hE _ _ _)
      by_cases hk45 : kk = 45
      · subst hk45
        match s, hl, hst, hev with
        | [], _, _, hev => cases hev
        | [_], _, _, hev => cases hev
        | y :: x :: r, hl, hst, hev =>
          have hl2 : r.length + 1 + 1 ≤ q := hl
          refine g_iload m14_6 rfl ?_
          refine g_aload_n m14_8 rfl ?_
          refine h_gfR (c := 102 + 3 * i) (k := 69 + 3 * i) (p := 101 + 3 * i) m14_9 (pLo _) (tLo hi) rfl (le3 (Nat.le_of_ble_eq_true rfl)) ?_
          refine h_alen (k := 70 + 3 * i) (p := 102 + 3 * i) m14_12 (pLc _) (tLc hi) (Or.inl rfl) ?_
          refine h_ic_geF (xi := ((q : Nat) : Int)) (zi := ((ln i : Nat) : Int)) m14_13 (nI_toInt (by omega)) (nI_toInt (by omega)) (by omega) ?_
          refine g_aload_n m14_16 rfl ?_
          refine h_gfR (c := 102 + 3 * i) (k := 69 + 3 * i) (p := 101 + 3 * i) m14_17 (pLo _) (tLo hi) rfl (le3 (Nat.le_of_ble_eq_true rfl)) ?_
          refine g_iload m14_20 rfl ?_
          refine h_ial (k := 70 + 3 * i) (p := 102 + 3 * i) (j := q) m14_22 (pLc _) (tLc hi) (rfl) (by omega) (by omega) (he0) ?_
          refine g_istore (L2 := [some (.ref (101 + 3 * i)), some (.int (a)), some (.int (b)), some (.int (c)), some (.int (nI ((y :: x :: r).length))), some (.int (nI (q))), some (.int (45)), o7, o8, o9]) m14_23 rfl rfl ?_
          refine g_iload m14_25 rfl ?_
          refine g_sipush m14_27 ?_
          refine h_ic_geF (xi := 45) (zi := 1000) m14_30 rfl rfl (by decide) ?_
          refine g_iload m14_33 rfl ?_
          refine g_iconst m14_35 ?_
          refine h_ic_geT (xi := 45) (zi := 3) m14_36 rfl rfl (by decide) ?_
          refine g_iload m14_43 rfl ?_
          refine g_bipush m14_45 ?_
          refine h_ic_neF (xi := 45) (zi := 33) m14_47 rfl rfl (by decide) ?_
          refine g_iconst m14_54 ?_
          refine g_istore (L2 := [some (.ref (101 + 3 * i)), some (.int (a)), some (.int (b)), some (.int (c)), some (.int (nI ((y :: x :: r).length))), some (.int (nI (q))), some (.int (45)), some (.int (2)), o8, o9]) m14_55 rfl rfl ?_
          refine g_iload m14_57 rfl ?_
          refine g_iload m14_59 rfl ?_
          refine g_isub (u := nI (r.length)) m14_61 (pk_sub (a := r.length + 1 + 1) (b := 2) (by omega)) ?_
          refine g_istore (L2 := [some (.ref (101 + 3 * i)), some (.int (a)), some (.int (b)), some (.int (c)), some (.int (nI (r.length))), some (.int (nI (q))), some (.int (45)), some (.int (2)), o8, o9]) m14_62 rfl rfl ?_
          refine g_iload m14_64 rfl ?_
          refine h_if_ltF (xi := ((r.length : Nat) : Int)) (zi := 0) m14_66 (nI_toInt (by omega)) rfl (by omega) ?_
          refine g_iload m14_69 rfl ?_
          refine g_aload_n m14_71 rfl ?_
          refine h_gfR (c := 103 + 3 * i) (k := 69 + 3 * i) (p := 101 + 3 * i) m14_72 (pLo _) (tLo hi) rfl (le3 (Nat.le_of_ble_eq_true rfl)) ?_
          refine h_alen (k := 71 + 3 * i) (p := 103 + 3 * i) m14_75 (pLw _) (tLw hi) (Or.inl rfl) ?_
          refine h_ic_ltT (xi := ((r.length : Nat) : Int)) (zi := ((ln i : Nat) : Int)) m14_76 (nI_toInt (by omega)) (nI_toInt (by omega)) (by omega) ?_
          refine g_aload_n m14_81 rfl ?_
          refine h_gfR (c := 103 + 3 * i) (k := 69 + 3 * i) (p := 101 + 3 * i) m14_82 (pLo _) (tLo hi) rfl (le3 (Nat.le_of_ble_eq_true rfl)) ?_
          refine g_iload m14_85 rfl ?_
          refine h_ial (k := 71 + 3 * i) (p := 103 + 3 * i) (j := r.length) m14_87 (pLw _) (tLw hi) (rfl) (by omega) (by omega) (hst.2.1) ?_
          refine g_istore (L2 := [some (.ref (101 + 3 * i)), some (.int (a)), some (.int (b)), some (.int (c)), some (.int (nI (r.length))), some (.int (nI (q))), some (.int (45)), some (.int (2)), some (.int (x)), o9]) m14_88 rfl rfl ?_
          refine g_iload m14_90 rfl ?_
          refine g_iconst m14_92 ?_
          refine g_iadd (u := nI ((r.length) + 1)) m14_93 (nI_add (r.length) 1) ?_
          refine g_aload_n m14_94 rfl ?_
          refine h_gfR (c := 103 + 3 * i) (k := 69 + 3 * i) (p := 101 + 3 * i) m14_95 (pLo _) (tLo hi) rfl (le3 (Nat.le_of_ble_eq_true rfl)) ?_
          refine h_alen (k := 71 + 3 * i) (p := 103 + 3 * i) m14_98 (pLw _) (tLw hi) (Or.inl rfl) ?_
          refine h_ic_geF (xi := (((r.length) + 1 : Nat) : Int)) (zi := ((ln i : Nat) : Int)) m14_99 (nI_toInt (by omega)) (nI_toInt (by omega)) (by omega) ?_
          refine g_aload_n m14_102 rfl ?_
          refine h_gfR (c := 103 + 3 * i) (k := 69 + 3 * i) (p := 101 + 3 * i) m14_103 (pLo _) (tLo hi) rfl (le3 (Nat.le_of_ble_eq_true rfl)) ?_
          refine g_iload m14_106 rfl ?_
          refine g_iconst m14_108 ?_
          refine g_iadd (u := nI ((r.length) + 1)) m14_109 (nI_add (r.length) 1) ?_
          refine h_ial (k := 71 + 3 * i) (p := 103 + 3 * i) (j := r.length + 1) m14_110 (pLw _) (tLw hi) (rfl) (by omega) (by omega) (hst.1) ?_
          refine g_goto m14_111 ?_
          refine g_istore (L2 := [some (.ref (101 + 3 * i)), some (.int (a)), some (.int (b)), some (.int (c)), some (.int (nI (r.length))), some (.int (nI (q))), some (.int (45)), some (.int (2)), some (.int (x)), some (.int (y))]) m14_115 rfl rfl ?_
          refine g_iload m14_117 rfl ?_
          refine gs m14_119 ?_
          refine gwpc (pc' := 308) rfl ?_
          refine g_aload_n m14_308 rfl ?_
          refine h_gfR (c := 103 + 3 * i) (k := 69 + 3 * i) (p := 101 + 3 * i) m14_309 (pLo _) (tLo hi) rfl (le3 (Nat.le_of_ble_eq_true rfl)) ?_
          refine g_iload m14_312 rfl ?_
          refine g_iload m14_314 rfl ?_
          refine g_iload m14_316 rfl ?_
          refine g_isub m14_318 rfl ?_
          refine h_ias (k := 71 + 3 * i) (p := 103 + 3 * i) (j := r.length) m14_319 (pLw _) (tLw hi) (rfl) (by omega) (by omega) ?_
          refine g_goto m14_320 ?_
          refine gwl (L' := [some (.ref (101 + 3 * i)), some (.int a), some (.int b), some (.int c), some (.int (nI (r.length))), some (.int (nI q)), _, _, _, _]) rfl ?_
          refine g_iinc (L2 := [some (.ref (101 + 3 * i)), some (.int (a)), some (.int (b)), some (.int (c)), some (.int (nI ((r.length) + 1))), some (.int (nI (q))), some (.int (45)), some (.int (2)), some (.int (x)), some (.int (y))]) m14_515 rfl (nI_1 _) rfl rfl ?_
          refine g_iinc (L2 := [some (.ref (101 + 3 * i)), some (.int (a)), some (.int (b)), some (.int (c)), some (.int (nI ((r.length) + 1))), some (.int (nI (q + 1))), some (.int (45)), some (.int (2)), some (.int (x)), some (.int (y))]) m14_518 rfl (nI_1 _) rfl rfl ?_
          refine g_goto m14_521 ?_
          rw [ev_45] at hev
          obtain rfl := Option.some.inj hev
          exact ih (q + 1) _ _ _ _ _ _ (by omega) hs2 (by show r.length + 1 ≤ q + 1; omega) (Stk_pushE rfl rfl hst.2.2) (EqM_w hE _ _ _)
      by_cases hk42 : kk = 42
      · subst hk42
        match s, hl, hst, hev with
        | [], _, _, hev => cases hev
        | [_], _, _, hev => cases hev
        | y :: x :: r, hl, hst, hev =>
          have hl2 : r.length + 1 + 1 ≤ q := hl
          refine g_iload m14_6 rfl ?_
          refine g_aload_n m14_8 rfl ?_
          refine h_gfR (c := 102 + 3 * i) (k := 69 + 3 * i) (p := 101 + 3 * i) m14_9 (pLo _) (tLo hi) rfl (le3 (Nat.le_of_ble_eq_true rfl)) ?_
          refine h_alen (k := 70 + 3 * i) (p := 102 + 3 * i) m14_12 (pLc _) (tLc hi) (Or.inl rfl) ?_
          refine h_ic_geF (xi := ((q : Nat) : Int)) (zi := ((ln i : Nat) : Int)) m14_13 (nI_toInt (by omega)) (nI_toInt (by omega)) (by omega) ?_
          refine g_aload_n m14_16 rfl ?_
          refine h_gfR (c := 102 + 3 * i) (k := 69 + 3 * i) (p := 101 + 3 * i) m14_17 (pLo _) (tLo hi) rfl (le3 (Nat.le_of_ble_eq_true rfl)) ?_
          refine g_iload m14_20 rfl ?_
          refine h_ial (k := 70 + 3 * i) (p := 102 + 3 * i) (j := q) m14_22 (pLc _) (tLc hi) (rfl) (by omega) (by omega) (he0) ?_
          refine g_istore (L2 := [some (.ref (101 + 3 * i)), some (.int (a)), some (.int (b)), some (.int (c)), some (.int (nI ((y :: x :: r).length))), some (.int (nI (q))), some (.int (42)), o7, o8, o9]) m14_23 rfl rfl ?_
          refine g_iload m14_25 rfl ?_
          refine g_sipush m14_27 ?_
          refine h_ic_geF (xi := 42) (zi := 1000) m14_30 rfl rfl (by decide) ?_
          refine g_iload m14_33 rfl ?_
          refine g_iconst m14_35 ?_
          refine h_ic_geT (xi := 42) (zi := 3) m14_36 rfl rfl (by decide) ?_
          refine g_iload m14_43 rfl ?_
          refine g_bipush m14_45 ?_
          refine h_ic_neF (xi := 42) (zi := 33) m14_47 rfl rfl (by decide) ?_
          refine g_iconst m14_54 ?_
          refine g_istore (L2 := [some (.ref (101 + 3 * i)), some (.int (a)), some (.int (b)), some (.int (c)), some (.int (nI ((y :: x :: r).length))), some (.int (nI (q))), some (.int (42)), some (.int (2)), o8, o9]) m14_55 rfl rfl ?_
          refine g_iload m14_57 rfl ?_
          refine g_iload m14_59 rfl ?_
          refine g_isub (u := nI (r.length)) m14_61 (pk_sub (a := r.length + 1 + 1) (b := 2) (by omega)) ?_
          refine g_istore (L2 := [some (.ref (101 + 3 * i)), some (.int (a)), some (.int (b)), some (.int (c)), some (.int (nI (r.length))), some (.int (nI (q))), some (.int (42)), some (.int (2)), o8, o9]) m14_62 rfl rfl ?_
          refine g_iload m14_64 rfl ?_
          refine h_if_ltF (xi := ((r.length : Nat) : Int)) (zi := 0) m14_66 (nI_toInt (by omega)) rfl (by omega) ?_
          refine g_iload m14_69 rfl ?_
          refine g_aload_n m14_71 rfl ?_
          refine h_gfR (c := 103 + 3 * i) (k := 69 + 3 * i) (p := 101 + 3 * i) m14_72 (pLo _) (tLo hi) rfl (le3 (Nat.le_of_ble_eq_true rfl)) ?_
          refine h_alen (k := 71 + 3 * i) (p := 103 + 3 * i) m14_75 (pLw _) (tLw hi) (Or.inl rfl) ?_
          refine h_ic_ltT (xi := ((r.length : Nat) : Int)) (zi := ((ln i : Nat) : Int)) m14_76 (nI_toInt (by omega)) (nI_toInt (by omega)) (by omega) ?_
          refine g_aload_n m14_81 rfl ?_
          refine h_gfR (c := 103 + 3 * i) (k := 69 + 3 * i) (p := 101 + 3 * i) m14_82 (pLo _) (tLo hi) rfl (le3 (Nat.le_of_ble_eq_true rfl)) ?_
          refine g_iload m14_85 rfl ?_
          refine h_ial (k := 71 + 3 * i) (p := 103 + 3 * i) (j := r.length) m14_87 (pLw _) (tLw hi) (rfl) (by omega) (by omega) (hst.2.1) ?_
          refine g_istore (L2 := [some (.ref (101 + 3 * i)), some (.int (a)), some (.int (b)), some (.int (c)), some (.int (nI (r.length))), some (.int (nI (q))), some (.int (42)), some (.int (2)), some (.int (x)), o9]) m14_88 rfl rfl ?_
          refine g_iload m14_90 rfl ?_
          refine g_iconst m14_92 ?_
          refine g_iadd (u := nI ((r.length) + 1)) m14_93 (nI_add (r.length) 1) ?_
          refine g_aload_n m14_94 rfl ?_
          refine h_gfR (c := 103 + 3 * i) (k := 69 + 3 * i) (p := 101 + 3 * i) m14_95 (pLo _) (tLo hi) rfl (le3 (Nat.le_of_ble_eq_true rfl)) ?_
          refine h_alen (k := 71 + 3 * i) (p := 103 + 3 * i) m14_98 (pLw _) (tLw hi) (Or.inl rfl) ?_
          refine h_ic_geF (xi := (((r.length) + 1 : Nat) : Int)) (zi := ((ln i : Nat) : Int)) m14_99 (nI_toInt (by omega)) (nI_toInt (by omega)) (by omega) ?_
          refine g_aload_n m14_102 rfl ?_
          refine h_gfR (c := 103 + 3 * i) (k := 69 + 3 * i) (p := 101 + 3 * i) m14_103 (pLo _) (tLo hi) rfl (le3 (Nat.le_of_ble_eq_true rfl)) ?_
          refine g_iload m14_106 rfl ?_
          refine g_iconst m14_108 ?_
          refine g_iadd (u := nI ((r.length) + 1)) m14_109 (nI_add (r.length) 1) ?_
          refine h_ial (k := 71 + 3 * i) (p := 103 + 3 * i) (j := r.length + 1) m14_110 (pLw _) (tLw hi) (rfl) (by omega) (by omega) (hst.1) ?_
          refine g_goto m14_111 ?_
          refine g_istore (L2 := [some (.ref (101 + 3 * i)), some (.int (a)), some (.int (b)), some (.int (c)), some (.int (nI (r.length))), some (.int (nI (q))), some (.int (42)), some (.int (2)), some (.int (x)), some (.int (y))]) m14_115 rfl rfl ?_
          refine g_iload m14_117 rfl ?_
          refine gs m14_119 ?_
          refine gwpc (pc' := 323) rfl ?_
          refine g_aload_n m14_323 rfl ?_
          refine h_gfR (c := 103 + 3 * i) (k := 69 + 3 * i) (p := 101 + 3 * i) m14_324 (pLo _) (tLo hi) rfl (le3 (Nat.le_of_ble_eq_true rfl)) ?_
          refine g_iload m14_327 rfl ?_
          refine g_iload m14_329 rfl ?_
          refine g_iload m14_331 rfl ?_
          refine g_imul m14_333 rfl ?_
          refine h_ias (k := 71 + 3 * i) (p := 103 + 3 * i) (j := r.length) m14_334 (pLw _) (tLw hi) (rfl) (by omega) (by omega) ?_
          refine g_goto m14_335 ?_
          refine gwl (L' := [some (.ref (101 + 3 * i)), some (.int a), some (.int b), some (.int c), some (.int (nI (r.length))), some (.int (nI q)), _, _, _, _]) rfl ?_
          refine g_iinc (L2 := [some (.ref (101 + 3 * i)), some (.int (a)), some (.int (b)), some (.int (c)), some (.int (nI ((r.length) + 1))), some (.int (nI (q))), some (.int (42)), some (.int (2)), some (.int (x)), some (.int (y))]) m14_515 rfl (nI_1 _) rfl rfl ?_
          refine g_iinc (L2 := [some (.ref (101 + 3 * i)), some (.int (a)), some (.int (b)), some (.int (c)), some (.int (nI ((r.length) + 1))), some (.int (nI (q + 1))), some (.int (42)), some (.int (2)), some (.int (x)), some (.int (y))]) m14_518 rfl (nI_1 _) rfl rfl ?_
          refine g_goto m14_521 ?_
          rw [ev_42] at hev
          obtain rfl := Option.some.inj hev
          exact ih (q + 1) _ _ _ _ _ _ (by omega) hs2 (by show r.length + 1 ≤ q + 1; omega) (Stk_pushE rfl rfl hst.2.2) (EqM_w hE _ _ _)
      by_cases hk47 : kk = 47
      · subst hk47
        match s, hl, hst, hev with
        | [], _, _, hev => cases hev
        | [_], _, _, hev => cases hev
        | y :: x :: r, hl, hst, hev =>
          have hl2 : r.length + 1 + 1 ≤ q := hl
          refine g_iload m14_6 rfl ?_
          refine g_aload_n m14_8 rfl ?_
          refine h_gfR (c := 102 + 3 * i) (k := 69 + 3 * i) (p := 101 + 3 * i) m14_9 (pLo _) (tLo hi) rfl (le3 (Nat.le_of_ble_eq_true rfl)) ?_
          refine h_alen (k := 70 + 3 * i) (p := 102 + 3 * i) m14_12 (pLc _) (tLc hi) (Or.inl rfl) ?_
          refine h_ic_geF (xi := ((q : Nat) : Int)) (zi := ((ln i : Nat) : Int)) m14_13 (nI_toInt (by omega)) (nI_toInt (by omega)) (by omega) ?_
          refine g_aload_n m14_16 rfl ?_
          refine h_gfR (c := 102 + 3 * i) (k := 69 + 3 * i) (p := 101 + 3 * i) m14_17 (pLo _) (tLo hi) rfl (le3 (Nat.le_of_ble_eq_true rfl)) ?_
          refine g_iload m14_20 rfl ?_
          refine h_ial (k := 70 + 3 * i) (p := 102 + 3 * i) (j := q) m14_22 (pLc _) (tLc hi) (rfl) (by omega) (by omega) (he0) ?_
          refine g_istore (L2 := [some (.ref (101 + 3 * i)), some (.int (a)), some (.int (b)), some (.int (c)), some (.int (nI ((y :: x :: r).length))), some (.int (nI (q))), some (.int (47)), o7, o8, o9]) m14_23 rfl rfl ?_
          refine g_iload m14_25 rfl ?_
          refine g_sipush m14_27 ?_
          refine h_ic_geF (xi := 47) (zi := 1000) m14_30 rfl rfl (by decide) ?_
          refine g_iload m14_33 rfl ?_
          refine g_iconst m14_35 ?_
          refine h_ic_geT (xi := 47) (zi := 3) m14_36 rfl rfl (by decide) ?_
          refine g_iload m14_43 rfl ?_
          refine g_bipush m14_45 ?_
          refine h_ic_neF (xi := 47) (zi := 33) m14_47 rfl rfl (by decide) ?_
          refine g_iconst m14_54 ?_
          refine g_istore (L2 := [some (.ref (101 + 3 * i)), some (.int (a)), some (.int (b)), some (.int (c)), some (.int (nI ((y :: x :: r).length))), some (.int (nI (q))), some (.int (47)), some (.int (2)), o8, o9]) m14_55 rfl rfl ?_
          refine g_iload m14_57 rfl ?_
          refine g_iload m14_59 rfl ?_
          refine g_isub (u := nI (r.length)) m14_61 (pk_sub (a := r.length + 1 + 1) (b := 2) (by omega)) ?_
          refine g_istore (L2 := [some (.ref (101 + 3 * i)), some (.int (a)), some (.int (b)), some (.int (c)), some (.int (nI (r.length))), some (.int (nI (q))), some (.int (47)), some (.int (2)), o8, o9]) m14_62 rfl rfl ?_
          refine g_iload m14_64 rfl ?_
          refine h_if_ltF (xi := ((r.length : Nat) : Int)) (zi := 0) m14_66 (nI_toInt (by omega)) rfl (by omega) ?_
          refine g_iload m14_69 rfl ?_
          refine g_aload_n m14_71 rfl ?_
          refine h_gfR (c := 103 + 3 * i) (k := 69 + 3 * i) (p := 101 + 3 * i) m14_72 (pLo _) (tLo hi) rfl (le3 (Nat.le_of_ble_eq_true rfl)) ?_
          refine h_alen (k := 71 + 3 * i) (p := 103 + 3 * i) m14_75 (pLw _) (tLw hi) (Or.inl rfl) ?_
          refine h_ic_ltT (xi := ((r.length : Nat) : Int)) (zi := ((ln i : Nat) : Int)) m14_76 (nI_toInt (by omega)) (nI_toInt (by omega)) (by omega) ?_
          refine g_aload_n m14_81 rfl ?_
          refine h_gfR (c := 103 + 3 * i) (k := 69 + 3 * i) (p := 101 + 3 * i) m14_82 (pLo _) (tLo hi) rfl (le3 (Nat.le_of_ble_eq_true rfl)) ?_
          refine g_iload m14_85 rfl ?_
          refine h_ial (k := 71 + 3 * i) (p := 103 + 3 * i) (j := r.length) m14_87 (pLw _) (tLw hi) (rfl) (by omega) (by omega) (hst.2.1) ?_
          refine g_istore (L2 := [some (.ref (101 + 3 * i)), some (.int (a)), some (.int (b)), some (.int (c)), some (.int (nI (r.length))), some (.int (nI (q))), some (.int (47)), some (.int (2)), some (.int (x)), o9]) m14_88 rfl rfl ?_
          refine g_iload m14_90 rfl ?_
          refine g_iconst m14_92 ?_
          refine g_iadd (u := nI ((r.length) + 1)) m14_93 (nI_add (r.length) 1) ?_
          refine g_aload_n m14_94 rfl ?_
          refine h_gfR (c := 103 + 3 * i) (k := 69 + 3 * i) (p := 101 + 3 * i) m14_95 (pLo _) (tLo hi) rfl (le3 (Nat.le_of_ble_eq_true rfl)) ?_
          refine h_alen (k := 71 + 3 * i) (p := 103 + 3 * i) m14_98 (pLw _) (tLw hi) (Or.inl rfl) ?_
          refine h_ic_geF (xi := (((r.length) + 1 : Nat) : Int)) (zi := ((ln i : Nat) : Int)) m14_99 (nI_toInt (by omega)) (nI_toInt (by omega)) (by omega) ?_
          refine g_aload_n m14_102 rfl ?_
          refine h_gfR (c := 103 + 3 * i) (k := 69 + 3 * i) (p := 101 + 3 * i) m14_103 (pLo _) (tLo hi) rfl (le3 (Nat.le_of_ble_eq_true rfl)) ?_
          refine g_iload m14_106 rfl ?_
          refine g_iconst m14_108 ?_
          refine g_iadd (u := nI ((r.length) + 1)) m14_109 (nI_add (r.length) 1) ?_
          refine h_ial (k := 71 + 3 * i) (p := 103 + 3 * i) (j := r.length + 1) m14_110 (pLw _) (tLw hi) (rfl) (by omega) (by omega) (hst.1) ?_
          refine g_goto m14_111 ?_
          refine g_istore (L2 := [some (.ref (101 + 3 * i)), some (.int (a)), some (.int (b)), some (.int (c)), some (.int (nI (r.length))), some (.int (nI (q))), some (.int (47)), some (.int (2)), some (.int (x)), some (.int (y))]) m14_115 rfl rfl ?_
          refine g_iload m14_117 rfl ?_
          refine gs m14_119 ?_
          refine gwpc (pc' := 338) rfl ?_
          refine g_aload_n m14_338 rfl ?_
          refine h_gfR (c := 103 + 3 * i) (k := 69 + 3 * i) (p := 101 + 3 * i) m14_339 (pLo _) (tLo hi) rfl (le3 (Nat.le_of_ble_eq_true rfl)) ?_
          refine g_iload m14_342 rfl ?_
          refine g_iload m14_344 rfl ?_
          refine h_if_ne (xi := _) (zi := 0) m14_346 rfl rfl (fun c7 => ?_) (fun c7 => ?_)
          · skip
            refine g_iconst m14_349 ?_
            refine g_goto m14_350 ?_
            refine h_ias (k := 71 + 3 * i) (p := 103 + 3 * i) (j := r.length) m14_358 (pLw _) (tLw hi) (rfl) (by omega) (by omega) ?_
            refine g_goto m14_359 ?_
            refine gwl (L' := [some (.ref (101 + 3 * i)), some (.int a), some (.int b), some (.int c), some (.int (nI (r.length))), some (.int (nI q)), _, _, _, _]) rfl ?_
            refine g_iinc (L2 := [some (.ref (101 + 3 * i)), some (.int (a)), some (.int (b)), some (.int (c)), some (.int (nI ((r.length) + 1))), some (.int (nI (q))), some (.int (47)), some (.int (2)), some (.int (x)), some (.int (y))]) m14_515 rfl (nI_1 _) rfl rfl ?_
            refine g_iinc (L2 := [some (.ref (101 + 3 * i)), some (.int (a)), some (.int (b)), some (.int (c)), some (.int (nI ((r.length) + 1))), some (.int (nI (q + 1))), some (.int (47)), some (.int (2)), some (.int (x)), some (.int (y))]) m14_518 rfl (nI_1 _) rfl rfl ?_
            refine g_goto m14_521 ?_
            rw [ev_47] at hev
            obtain rfl := Option.some.inj hev
            exact ih (q + 1) _ _ _ _ _ _ (by omega) hs2 (by show r.length + 1 ≤ q + 1; omega) (Stk_pushE (by simp [c7]) rfl hst.2.2) (EqM_w hE _ _ _)
          · skip
            refine g_iload m14_353 rfl ?_
            refine g_iload m14_355 rfl ?_
            refine g_idiv m14_357 (fun z0 => by subst z0; exact absurd rfl (by assumption)) rfl ?_
            refine h_ias (k := 71 + 3 * i) (p := 103 + 3 * i) (j := r.length) m14_358 (pLw _) (tLw hi) (rfl) (by omega) (by omega) ?_
            refine g_goto m14_359 ?_
            refine gwl (L' := [some (.ref (101 + 3 * i)), some (.int a), some (.int b), some (.int c), some (.int (nI (r.length))), some (.int (nI q)), _, _, _, _]) rfl ?_
            refine g_iinc (L2 := [some (.ref (101 + 3 * i)), some (.int (a)), some (.int (b)), some (.int (c)), some (.int (nI ((r.length) + 1))), some (.int (nI (q))), some (.int (47)), some (.int (2)), some (.int (x)), some (.int (y))]) m14_515 rfl (nI_1 _) rfl rfl ?_
            refine g_iinc (L2 := [some (.ref (101 + 3 * i)), some (.int (a)), some (.int (b)), some (.int (c)), some (.int (nI ((r.length) + 1))), some (.int (nI (q + 1))), some (.int (47)), some (.int (2)), some (.int (x)), some (.int (y))]) m14_518 rfl (nI_1 _) rfl rfl ?_
            refine g_goto m14_521 ?_
            rw [ev_47] at hev
            obtain rfl := Option.some.inj hev
            exact ih (q + 1) _ _ _ _ _ _ (by omega) hs2 (by show r.length + 1 ≤ q + 1; omega) (Stk_pushE (by simp [c7]) rfl hst.2.2) (EqM_w hE _ _ _)
      by_cases hk37 : kk = 37
      · subst hk37
        match s, hl, hst, hev with
        | [], _, _, hev => cases hev
        | [_], _, _, hev => cases hev
        | y :: x :: r, hl, hst, hev =>
          have hl2 : r.length + 1 + 1 ≤ q := hl
          refine g_iload m14_6 rfl ?_
          refine g_aload_n m14_8 rfl ?_
          refine h_gfR (c := 102 + 3 * i) (k := 69 + 3 * i) (p := 101 + 3 * i) m14_9 (pLo _) (tLo hi) rfl (le3 (Nat.le_of_ble_eq_true rfl)) ?_
          refine h_alen (k := 70 + 3 * i) (p := 102 + 3 * i) m14_12 (pLc _) (tLc hi) (Or.inl rfl) ?_
          refine h_ic_geF (xi := ((q : Nat) : Int)) (zi := ((ln i : Nat) : Int)) m14_13 (nI_toInt (by omega)) (nI_toInt (by omega)) (by omega) ?_
          refine g_aload_n m14_16 rfl ?_
          refine h_gfR (c := 102 + 3 * i) (k := 69 + 3 * i) (p := 101 + 3 * i) m14_17 (pLo _) (tLo hi) rfl (le3 (Nat.le_of_ble_eq_true rfl)) ?_
          refine g_iload m14_20 rfl ?_
          refine h_ial (k := 70 + 3 * i) (p := 102 + 3 * i) (j := q) m14_22 (pLc _) (tLc hi) (rfl) (by omega) (by omega) (he0) ?_
          refine g_istore (L2 := [some (.ref (101 + 3 * i)), some (.int (a)), some (.int (b)), some (.int (c)), some (.int (nI ((y :: x :: r).length))), some (.int (nI (q))), some (.int (37)), o7, o8, o9]) m14_23 rfl rfl ?_
          refine g_iload m14_25 rfl ?_
          refine g_sipush m14_27 ?_
          refine h_ic_geF (xi := 37) (zi := 1000) m14_30 rfl rfl (by decide) ?_
          refine g_iload m14_33 rfl ?_
          refine g_iconst m14_35 ?_
          refine h_ic_geT (xi := 37) (zi := 3) m14_36 rfl rfl (by decide) ?_
          refine g_iload m14_43 rfl ?_
          refine g_bipush m14_45 ?_
          refine h_ic_neF (xi := 37) (zi := 33) m14_47 rfl rfl (by decide) ?_
          refine g_iconst m14_54 ?_
          refine g_istore (L2 := [some (.ref (101 + 3 * i)), some (.int (a)), some (.int (b)), some (.int (c)), some (.int (nI ((y :: x :: r).length))), some (.int (nI (q))), some (.int (37)), some (.int (2)), o8, o9]) m14_55 rfl rfl ?_
          refine g_iload m14_57 rfl ?_
          refine g_iload m14_59 rfl ?_
          refine g_isub (u := nI (r.length)) m14_61 (pk_sub (a := r.length + 1 + 1) (b := 2) (by omega)) ?_
          refine g_istore (L2 := [some (.ref (101 + 3 * i)), some (.int (a)), some (.int (b)), some (.int (c)), some (.int (nI (r.length))), some (.int (nI (q))), some (.int (37)), some (.int (2)), o8, o9]) m14_62 rfl rfl ?_
          refine g_iload m14_64 rfl ?_
          refine h_if_ltF (xi := ((r.length : Nat) : Int)) (zi := 0) m14_66 (nI_toInt (by omega)) rfl (by omega) ?_
          refine g_iload m14_69 rfl ?_
          refine g_aload_n m14_71 rfl ?_
          refine h_gfR (c := 103 + 3 * i) (k := 69 + 3 * i) (p := 101 + 3 * i) m14_72 (pLo _) (tLo hi) rfl (le3 (Nat.le_of_ble_eq_true rfl)) ?_
          refine h_alen (k := 71 + 3 * i) (p := 103 + 3 * i) m14_75 (pLw _) (tLw hi) (Or.inl rfl) ?_
          refine h_ic_ltT (xi := ((r.length : Nat) : Int)) (zi := ((ln i : Nat) : Int)) m14_76 (nI_toInt (by omega)) (nI_toInt (by omega)) (by omega) ?_
          refine g_aload_n m14_81 rfl ?_
          refine h_gfR (c := 103 + 3 * i) (k := 69 + 3 * i) (p := 101 + 3 * i) m14_82 (pLo _) (tLo hi) rfl (le3 (Nat.le_of_ble_eq_true rfl)) ?_
          refine g_iload m14_85 rfl ?_
          refine h_ial (k := 71 + 3 * i) (p := 103 + 3 * i) (j := r.length) m14_87 (pLw _) (tLw hi) (rfl) (by omega) (by omega) (hst.2.1) ?_
          refine g_istore (L2 := [some (.ref (101 + 3 * i)), some (.int (a)), some (.int (b)), some (.int (c)), some (.int (nI (r.length))), some (.int (nI (q))), some (.int (37)), some (.int (2)), some (.int (x)), o9]) m14_88 rfl rfl ?_
          refine g_iload m14_90 rfl ?_
          refine g_iconst m14_92 ?_
          refine g_iadd (u := nI ((r.length) + 1)) m14_93 (nI_add (r.length) 1) ?_
          refine g_aload_n m14_94 rfl ?_
          refine h_gfR (c := 103 + 3 * i) (k := 69 + 3 * i) (p := 101 + 3 * i) m14_95 (pLo _) (tLo hi) rfl (le3 (Nat.le_of_ble_eq_true rfl)) ?_
          refine h_alen (k := 71 + 3 * i) (p := 103 + 3 * i) m14_98 (pLw _) (tLw hi) (Or.inl rfl) ?_
          refine h_ic_geF (xi := (((r.length) + 1 : Nat) : Int)) (zi := ((ln i : Nat) : Int)) m14_99 (nI_toInt (by omega)) (nI_toInt (by omega)) (by omega) ?_
          refine g_aload_n m14_102 rfl ?_
          refine h_gfR (c := 103 + 3 * i) (k := 69 + 3 * i) (p := 101 + 3 * i) m14_103 (pLo _) (tLo hi) rfl (le3 (Nat.le_of_ble_eq_true rfl)) ?_
          refine g_iload m14_106 rfl ?_
          refine g_iconst m14_108 ?_
          refine g_iadd (u := nI ((r.length) + 1)) m14_109 (nI_add (r.length) 1) ?_
          refine h_ial (k := 71 + 3 * i) (p := 103 + 3 * i) (j := r.length + 1) m14_110 (pLw _) (tLw hi) (rfl) (by omega) (by omega) (hst.1) ?_
          refine g_goto m14_111 ?_
          refine g_istore (L2 := [some (.ref (101 + 3 * i)), some (.int (a)), some (.int (b)), some (.int (c)), some (.int (nI (r.length))), some (.int (nI (q))), some (.int (37)), some (.int (2)), some (.int (x)), some (.int (y))]) m14_115 rfl rfl ?_
          refine g_iload m14_117 rfl ?_
          refine gs m14_119 ?_
          refine gwpc (pc' := 362) rfl ?_
          refine g_aload_n m14_362 rfl ?_
          refine h_gfR (c := 103 + 3 * i) (k := 69 + 3 * i) (p := 101 + 3 * i) m14_363 (pLo _) (tLo hi) rfl (le3 (Nat.le_of_ble_eq_true rfl)) ?_
          refine g_iload m14_366 rfl ?_
          refine g_iload m14_368 rfl ?_
          refine h_if_ne (xi := _) (zi := 0) m14_370 rfl rfl (fun c8 => ?_) (fun c8 => ?_)
          · skip
            refine g_iconst m14_373 ?_
            refine g_goto m14_374 ?_
            refine h_ias (k := 71 + 3 * i) (p := 103 + 3 * i) (j := r.length) m14_382 (pLw _) (tLw hi) (rfl) (by omega) (by omega) ?_
            refine g_goto m14_383 ?_
            refine gwl (L' := [some (.ref (101 + 3 * i)), some (.int a), some (.int b), some (.int c), some (.int (nI (r.length))), some (.int (nI q)), _, _, _, _]) rfl ?_
            refine g_iinc (L2 := [some (.ref (101 + 3 * i)), some (.int (a)), some (.int (b)), some (.int (c)), some (.int (nI ((r.length) + 1))), some (.int (nI (q))), some (.int (37)), some (.int (2)), some (.int (x)), some (.int (y))]) m14_515 rfl (nI_1 _) rfl rfl ?_
            refine g_iinc (L2 := [some (.ref (101 + 3 * i)), some (.int (a)), some (.int (b)), some (.int (c)), some (.int (nI ((r.length) + 1))), some (.int (nI (q + 1))), some (.int (37)), some (.int (2)), some (.int (x)), some (.int (y))]) m14_518 rfl (nI_1 _) rfl rfl ?_
            refine g_goto m14_521 ?_
            rw [ev_37] at hev
            obtain rfl := Option.some.inj hev
            exact ih (q + 1) _ _ _ _ _ _ (by omega) hs2 (by show r.length + 1 ≤ q + 1; omega) (Stk_pushE (by simp [c8]) rfl hst.2.2) (EqM_w hE _ _ _)
          · skip
            refine g_iload m14_377 rfl ?_
            refine g_iload m14_379 rfl ?_
            refine g_irem m14_381 (fun z0 => by subst z0; exact absurd rfl (by assumption)) rfl ?_
            refine h_ias (k := 71 + 3 * i) (p := 103 + 3 * i) (j := r.length) m14_382 (pLw _) (tLw hi) (rfl) (by omega) (by omega) ?_
            refine g_goto m14_383 ?_
            refine gwl (L' := [some (.ref (101 + 3 * i)), some (.int a), some (.int b), some (.int c), some (.int (nI (r.length))), some (.int (nI q)), _, _, _, _]) rfl ?_
            refine g_iinc (L2 := [some (.ref (101 + 3 * i)), some (.int (a)), some (.int (b)), some (.int (c)), some (.int (nI ((r.length) + 1))), some (.int (nI (q))), some (.int (37)), some (.int (2)), some (.int (x)), some (.int (y))]) m14_515 rfl (nI_1 _) rfl rfl ?_
            refine g_iinc (L2 := [some (.ref (101 + 3 * i)), some (.int (a)), some (.int (b)), some (.int (c)), some (.int (nI ((r.length) + 1))), some (.int (nI (q + 1))), some (.int (37)), some (.int (2)), some (.int (x)), some (.int (y))]) m14_518 rfl (nI_1 _) rfl rfl ?_
            refine g_goto m14_521 ?_
            rw [ev_37] at hev
            obtain rfl := Option.some.inj hev
            exact ih (q + 1) _ _ _ _ _ _ (by omega) hs2 (by show r.length + 1 ≤ q + 1; omega) (Stk_pushE (by simp [c8]) rfl hst.2.2) (EqM_w hE _ _ _)
      by_cases hk60 : kk = 60
      · subst hk60
        match s, hl, hst, hev with
        | [], _, _, hev => cases hev
        | [_], _, _, hev => cases hev
        | y :: x :: r, hl, hst, hev =>
          have hl2 : r.length + 1 + 1 ≤ q := hl
          refine g_iload m14_6 rfl ?_
          refine g_aload_n m14_8 rfl ?_
          refine h_gfR (c := 102 + 3 * i) (k := 69 + 3 * i) (p := 101 + 3 * i) m14_9 (pLo _) (tLo hi) rfl (le3 (Nat.le_of_ble_eq_true rfl)) ?_
          refine h_alen (k := 70 + 3 * i) (p := 102 + 3 * i) m14_12 (pLc _) (tLc hi) (Or.inl rfl) ?_
          refine h_ic_geF (xi := ((q : Nat) : Int)) (zi := ((ln i : Nat) : Int)) m14_13 (nI_toInt (by omega)) (nI_toInt (by omega)) (by omega) ?_
          refine g_aload_n m14_16 rfl ?_
          refine h_gfR (c := 102 + 3 * i) (k := 69 + 3 * i) (p := 101 + 3 * i) m14_17 (pLo _) (tLo hi) rfl (le3 (Nat.le_of_ble_eq_true rfl)) ?_
          refine g_iload m14_20 rfl ?_
          refine h_ial (k := 70 + 3 * i) (p := 102 + 3 * i) (j := q) m14_22 (pLc _) (tLc hi) (rfl) (by omega) (by omega) (he0) ?_
          refine g_istore (L2 := [some (.ref (101 + 3 * i)), some (.int (a)), some (.int (b)), some (.int (c)), some (.int (nI ((y :: x :: r).length))), some (.int (nI (q))), some (.int (60)), o7, o8, o9]) m14_23 rfl rfl ?_
          refine g_iload m14_25 rfl ?_
          refine g_sipush m14_27 ?_
          refine h_ic_geF (xi := 60) (zi := 1000) m14_30 rfl rfl (by decide) ?_
          refine g_iload m14_33 rfl ?_
          refine g_iconst m14_35 ?_
          refine h_ic_geT (xi := 60) (zi := 3) m14_36 rfl rfl (by decide) ?_
          refine g_iload m14_43 rfl ?_
          refine g_bipush m14_45 ?_
          refine h_ic_neF (xi := 60) (zi := 33) m14_47 rfl rfl (by decide) ?_
          refine g_iconst m14_54 ?_
          refine g_istore (L2 := [some (.ref (101 + 3 * i)), some (.int (a)), some (.int (b)), some (.int (c)), some (.int (nI ((y :: x :: r).length))), some (.int (nI (q))), some (.int (60)), some (.int (2)), o8, o9]) m14_55 rfl rfl ?_
          refine g_iload m14_57 rfl ?_
          refine g_iload m14_59 rfl ?_
          refine g_isub (u := nI (r.length)) m14_61 (pk_sub (a := r.length + 1 + 1) (b := 2) (by omega)) ?_
          refine g_istore (L2 := [some (.ref (101 + 3 * i)), some (.int (a)), some (.int (b)), some (.int (c)), some (.int (nI (r.length))), some (.int (nI (q))), some (.int (60)), some (.int (2)), o8, o9]) m14_62 rfl rfl ?_
          refine g_iload m14_64 rfl ?_
          refine h_if_ltF (xi := ((r.length : Nat) : Int)) (zi := 0) m14_66 (nI_toInt (by omega)) rfl (by omega) ?_
          refine g_iload m14_69 rfl ?_
          refine g_aload_n m14_71 rfl ?_
          refine h_gfR (c := 103 + 3 * i) (k := 69 + 3 * i) (p := 101 + 3 * i) m14_72 (pLo _) (tLo hi) rfl (le3 (Nat.le_of_ble_eq_true rfl)) ?_
          refine h_alen (k := 71 + 3 * i) (p := 103 + 3 * i) m14_75 (pLw _) (tLw hi) (Or.inl rfl) ?_
          refine h_ic_ltT (xi := ((r.length : Nat) : Int)) (zi := ((ln i : Nat) : Int)) m14_76 (nI_toInt (by omega)) (nI_toInt (by omega)) (by omega) ?_
          refine g_aload_n m14_81 rfl ?_
          refine h_gfR (c := 103 + 3 * i) (k := 69 + 3 * i) (p := 101 + 3 * i) m14_82 (pLo _) (tLo hi) rfl (le3 (Nat.le_of_ble_eq_true rfl)) ?_
          refine g_iload m14_85 rfl ?_
          refine h_ial (k := 71 + 3 * i) (p := 103 + 3 * i) (j := r.length) m14_87 (pLw _) (tLw hi) (rfl) (by omega) (by omega) (hst.2.1) ?_
          refine g_istore (L2 := [some (.ref (101 + 3 * i)), some (.int (a)), some (.int (b)), some (.int (c)), some (.int (nI (r.length))), some (.int (nI (q))), some (.int (60)), some (.int (2)), some (.int (x)), o9]) m14_88 rfl rfl ?_
          refine g_iload m14_90 rfl ?_
          refine g_iconst m14_92 ?_
          refine g_iadd (u := nI ((r.length) + 1)) m14_93 (nI_add (r.length) 1) ?_
          refine g_aload_n m14_94 rfl ?_
          refine h_gfR (c := 103 + 3 * i) (k := 69 + 3 * i) (p := 101 + 3 * i) m14_95 (pLo _) (tLo hi) rfl (le3 (Nat.le_of_ble_eq_true rfl)) ?_
          refine h_alen (k := 71 + 3 * i) (p := 103 + 3 * i) m14_98 (pLw _) (tLw hi) (Or.inl rfl) ?_
          refine h_ic_geF (xi := (((r.length) + 1 : Nat) : Int)) (zi := ((ln i : Nat) : Int)) m14_99 (nI_toInt (by omega)) (nI_toInt (by omega)) (by omega) ?_
          refine g_aload_n m14_102 rfl ?_
          refine h_gfR (c := 103 + 3 * i) (k := 69 + 3 * i) (p := 101 + 3 * i) m14_103 (pLo _) (tLo hi) rfl (le3 (Nat.le_of_ble_eq_true rfl)) ?_
          refine g_iload m14_106 rfl ?_
          refine g_iconst m14_108 ?_
          refine g_iadd (u := nI ((r.length) + 1)) m14_109 (nI_add (r.length) 1) ?_
          refine h_ial (k := 71 + 3 * i) (p := 103 + 3 * i) (j := r.length + 1) m14_110 (pLw _) (tLw hi) (rfl) (by omega) (by omega) (hst.1) ?_
          refine g_goto m14_111 ?_
          refine g_istore (L2 := [some (.ref (101 + 3 * i)), some (.int (a)), some (.int (b)), some (.int (c)), some (.int (nI (r.length))), some (.int (nI (q))), some (.int (60)), some (.int (2)), some (.int (x)), some (.int (y))]) m14_115 rfl rfl ?_
          refine g_iload m14_117 rfl ?_
          refine gs m14_119 ?_
          refine gwpc (pc' := 386) rfl ?_
          refine g_aload_n m14_386 rfl ?_
          refine h_gfR (c := 103 + 3 * i) (k := 69 + 3 * i) (p := 101 + 3 * i) m14_387 (pLo _) (tLo hi) rfl (le3 (Nat.le_of_ble_eq_true rfl)) ?_
          refine g_iload m14_390 rfl ?_
          refine g_iload m14_392 rfl ?_
          refine g_iload m14_394 rfl ?_
          refine h_ic_ge (xi := _) (zi := _) m14_396 rfl rfl (fun c9 => ?_) (fun c9 => ?_)
          · skip
            refine g_iconst m14_403 ?_
            refine h_ias (k := 71 + 3 * i) (p := 103 + 3 * i) (j := r.length) m14_404 (pLw _) (tLw hi) (rfl) (by omega) (by omega) ?_
            refine g_goto m14_405 ?_
            refine gwl (L' := [some (.ref (101 + 3 * i)), some (.int a), some (.int b), some (.int c), some (.int (nI (r.length))), some (.int (nI q)), _, _, _, _]) rfl ?_
            refine g_iinc (L2 := [some (.ref (101 + 3 * i)), some (.int (a)), some (.int (b)), some (.int (c)), some (.int (nI ((r.length) + 1))), some (.int (nI (q))), some (.int (60)), some (.int (2)), some (.int (x)), some (.int (y))]) m14_515 rfl (nI_1 _) rfl rfl ?_
            refine g_iinc (L2 := [some (.ref (101 + 3 * i)), some (.int (a)), some (.int (b)), some (.int (c)), some (.int (nI ((r.length) + 1))), some (.int (nI (q + 1))), some (.int (60)), some (.int (2)), some (.int (x)), some (.int (y))]) m14_518 rfl (nI_1 _) rfl rfl ?_
            refine g_goto m14_521 ?_
            rw [ev_60] at hev
            obtain rfl := Option.some.inj hev
            exact ih (q + 1) _ _ _ _ _ _ (by omega) hs2 (by show r.length + 1 ≤ q + 1; omega) (Stk_pushE (by simp [c9]) rfl hst.2.2) (EqM_w hE _ _ _)
          · skip
            refine g_iconst m14_399 ?_
            refine g_goto m14_400 ?_
            refine h_ias (k := 71 + 3 * i) (p := 103 + 3 * i) (j := r.length) m14_404 (pLw _) (tLw hi) (rfl) (by omega) (by omega) ?_
            refine g_goto m14_405 ?_
            refine gwl (L' := [some (.ref (101 + 3 * i)), some (.int a), some (.int b), some (.int c), some (.int (nI (r.length))), some (.int (nI q)), _, _, _, _]) rfl ?_
            refine g_iinc (L2 := [some (.ref (101 + 3 * i)), some (.int (a)), some (.int (b)), some (.int (c)), some (.int (nI ((r.length) + 1))), some (.int (nI (q))), some (.int (60)), some (.int (2)), some (.int (x)), some (.int (y))]) m14_515 rfl (nI_1 _) rfl rfl ?_
            refine g_iinc (L2 := [some (.ref (101 + 3 * i)), some (.int (a)), some (.int (b)), some (.int (c)), some (.int (nI ((r.length) + 1))), some (.int (nI (q + 1))), some (.int (60)), some (.int (2)), some (.int (x)), some (.int (y))]) m14_518 rfl (nI_1 _) rfl rfl ?_
            refine g_goto m14_521 ?_
            rw [ev_60] at hev
            obtain rfl := Option.some.inj hev
            exact ih (q + 1) _ _ _ _ _ _ (by omega) hs2 (by show r.length + 1 ≤ q + 1; omega) (Stk_pushE (by simp [c9]) rfl hst.2.2) (EqM_w hE _ _ _)
      by_cases hk61 : kk = 61
      · subst hk61
        match s, hl, hst, hev with
        | [], _, _, hev => cases hev
        | [_], _, _, hev => cases hev
        | y :: x :: r, hl, hst, hev =>
          have hl2 : r.length + 1 + 1 ≤ q := hl
          refine g_iload m14_6 rfl ?_
          refine g_aload_n m14_8 rfl ?_
          refine h_gfR (c := 102 + 3 * i) (k := 69 + 3 * i) (p := 101 + 3 * i) m14_9 (pLo _) (tLo hi) rfl (le3 (Nat.le_of_ble_eq_true rfl)) ?_
          refine h_alen (k := 70 + 3 * i) (p := 102 + 3 * i) m14_12 (pLc _) (tLc hi) (Or.inl rfl) ?_
          refine h_ic_geF (xi := ((q : Nat) : Int)) (zi := ((ln i : Nat) : Int)) m14_13 (nI_toInt (by omega)) (nI_toInt (by omega)) (by omega) ?_
          refine g_aload_n m14_16 rfl ?_
          refine h_gfR (c := 102 + 3 * i) (k := 69 + 3 * i) (p := 101 + 3 * i) m14_17 (pLo _) (tLo hi) rfl (le3 (Nat.le_of_ble_eq_true rfl)) ?_
          refine g_iload m14_20 rfl ?_
          refine h_ial (k := 70 + 3 * i) (p := 102 + 3 * i) (j := q) m14_22 (pLc _) (tLc hi) (rfl) (by omega) (by omega) (he0) ?_
          refine g_istore (L2 := [some (.ref (101 + 3 * i)), some (.int (a)), some (.int (b)), some (.int (c)), some (.int (nI ((y :: x :: r).length))), some (.int (nI (q))), some (.int (61)), o7, o8, o9]) m14_23 rfl rfl ?_
          refine g_iload m14_25 rfl ?_
          refine g_sipush m14_27 ?_
          refine h_ic_geF (xi := 61) (zi := 1000) m14_30 rfl rfl (by decide) ?_
          refine g_iload m14_33 rfl ?_
          refine g_iconst m14_35 ?_
          refine h_ic_geT (xi := 61) (zi := 3) m14_36 rfl rfl (by decide) ?_
          refine g_iload m14_43 rfl ?_
          refine g_bipush m14_45 ?_
          refine h_ic_neF (xi := 61) (zi := 33) m14_47 rfl rfl (by decide) ?_
          refine g_iconst m14_54 ?_
          refine g_istore (L2 := [some (.ref (101 + 3 * i)), some (.int (a)), some (.int (b)), some (.int (c)), some (.int (nI ((y :: x :: r).length))), some (.int (nI (q))), some (.int (61)), some (.int (2)), o8, o9]) m14_55 rfl rfl ?_
          refine g_iload m14_57 rfl ?_
          refine g_iload m14_59 rfl ?_
          refine g_isub (u := nI (r.length)) m14_61 (pk_sub (a := r.length + 1 + 1) (b := 2) (by omega)) ?_
          refine g_istore (L2 := [some (.ref (101 + 3 * i)), some (.int (a)), some (.int (b)), some (.int (c)), some (.int (nI (r.length))), some (.int (nI (q))), some (.int (61)), some (.int (2)), o8, o9]) m14_62 rfl rfl ?_
          refine g_iload m14_64 rfl ?_
          refine h_if_ltF (xi := ((r.length : Nat) : Int)) (zi := 0) m14_66 (nI_toInt (by omega)) rfl (by omega) ?_
          refine g_iload m14_69 rfl ?_
          refine g_aload_n m14_71 rfl ?_
          refine h_gfR (c := 103 + 3 * i) (k := 69 + 3 * i) (p := 101 + 3 * i) m14_72 (pLo _) (tLo hi) rfl (le3 (Nat.le_of_ble_eq_true rfl)) ?_
          refine h_alen (k := 71 + 3 * i) (p := 103 + 3 * i) m14_75 (pLw _) (tLw hi) (Or.inl rfl) ?_
          refine h_ic_ltT (xi := ((r.length : Nat) : Int)) (zi := ((ln i : Nat) : Int)) m14_76 (nI_toInt (by omega)) (nI_toInt (by omega)) (by omega) ?_
          refine g_aload_n m14_81 rfl ?_
          refine h_gfR (c := 103 + 3 * i) (k := 69 + 3 * i) (p := 101 + 3 * i) m14_82 (pLo _) (tLo hi) rfl (le3 (Nat.le_of_ble_eq_true rfl)) ?_
          refine g_iload m14_85 rfl ?_
          refine h_ial (k := 71 + 3 * i) (p := 103 + 3 * i) (j := r.length) m14_87 (pLw _) (tLw hi) (rfl) (by omega) (by omega) (hst.2.1) ?_
          refine g_istore (L2 := [some (.ref (101 + 3 * i)), some (.int (a)), some (.int (b)), some (.int (c)), some (.int (nI (r.length))), some (.int (nI (q))), some (.int (61)), some (.int (2)), some (.int (x)), o9]) m14_88 rfl rfl ?_
          refine g_iload m14_90 rfl ?_
          refine g_iconst m14_92 ?_
          refine g_iadd (u := nI ((r.length) + 1)) m14_93 (nI_add (r.length) 1) ?_
          refine g_aload_n m14_94 rfl ?_
          refine h_gfR (c := 103 + 3 * i) (k := 69 + 3 * i) (p := 101 + 3 * i) m14_95 (pLo _) (tLo hi) rfl (le3 (Nat.le_of_ble_eq_true rfl)) ?_
          refine h_alen (k := 71 + 3 * i) (p := 103 + 3 * i) m14_98 (pLw _) (tLw hi) (Or.inl rfl) ?_
          refine h_ic_geF (xi := (((r.length) + 1 : Nat) : Int)) (zi := ((ln i : Nat) : Int)) m14_99 (nI_toInt (by omega)) (nI_toInt (by omega)) (by omega) ?_
          refine g_aload_n m14_102 rfl ?_
          refine h_gfR (c := 103 + 3 * i) (k := 69 + 3 * i) (p := 101 + 3 * i) m14_103 (pLo _) (tLo hi) rfl (le3 (Nat.le_of_ble_eq_true rfl)) ?_
          refine g_iload m14_106 rfl ?_
          refine g_iconst m14_108 ?_
          refine g_iadd (u := nI ((r.length) + 1)) m14_109 (nI_add (r.length) 1) ?_
          refine h_ial (k := 71 + 3 * i) (p := 103 + 3 * i) (j := r.length + 1) m14_110 (pLw _) (tLw hi) (rfl) (by omega) (by omega) (hst.1) ?_
          refine g_goto m14_111 ?_
          refine g_istore (L2 := [some (.ref (101 + 3 * i)), some (.int (a)), some (.int (b)), some (.int (c)), some (.int (nI (r.length))), some (.int (nI (q))), some (.int (61)), some (.int (2)), some (.int (x)), some (.int (y))]) m14_115 rfl rfl ?_
          refine g_iload m14_117 rfl ?_
          refine gs m14_119 ?_
          refine gwpc (pc' := 408) rfl ?_
          refine g_aload_n m14_408 rfl ?_
          refine h_gfR (c := 103 + 3 * i) (k := 69 + 3 * i) (p := 101 + 3 * i) m14_409 (pLo _) (tLo hi) rfl (le3 (Nat.le_of_ble_eq_true rfl)) ?_
          refine g_iload m14_412 rfl ?_
          refine g_iload m14_414 rfl ?_
          refine g_iload m14_416 rfl ?_
          refine h_ic_ne (xi := _) (zi := _) m14_418 rfl rfl (fun c10 => ?_) (fun c10 => ?_)
          · skip
            refine g_iconst m14_421 ?_
            refine g_goto m14_422 ?_
            refine h_ias (k := 71 + 3 * i) (p := 103 + 3 * i) (j := r.length) m14_426 (pLw _) (tLw hi) (rfl) (by omega) (by omega) ?_
            refine g_goto m14_427 ?_
            refine gwl (L' := [some (.ref (101 + 3 * i)), some (.int a), some (.int b), some (.int c), some (.int (nI (r.length))), some (.int (nI q)), _, _, _, _]) rfl ?_
            refine g_iinc (L2 := [some (.ref (101 + 3 * i)), some (.int (a)), some (.int (b)), some (.int (c)), some (.int (nI ((r.length) + 1))), some (.int (nI (q))), some (.int (61)), some (.int (2)), some (.int (x)), some (.int (y))]) m14_515 rfl (nI_1 _) rfl rfl ?_
            refine g_iinc (L2 := [some (.ref (101 + 3 * i)), some (.int (a)), some (.int (b)), some (.int (c)), some (.int (nI ((r.length) + 1))), some (.int (nI (q + 1))), some (.int (61)), some (.int (2)), some (.int (x)), some (.int (y))]) m14_518 rfl (nI_1 _) rfl rfl ?_
            refine g_goto m14_521 ?_
            rw [ev_61] at hev
            obtain rfl := Option.some.inj hev
            exact ih (q + 1) _ _ _ _ _ _ (by omega) hs2 (by show r.length + 1 ≤ q + 1; omega) (Stk_pushE (by simp [c10]) rfl hst.2.2) (EqM_w hE _ _ _)
          · skip
            refine g_iconst m14_425 ?_
            refine h_ias (k := 71 + 3 * i) (p := 103 + 3 * i) (j := r.length) m14_426 (pLw _) (tLw hi) (rfl) (by omega) (by omega) ?_
            refine g_goto m14_427 ?_
            refine gwl (L' := [some (.ref (101 + 3 * i)), some (.int a), some (.int b), some (.int c), some (.int (nI (r.length))), some (.int (nI q)), _, _, _, _]) rfl ?_
            refine g_iinc (L2 := [some (.ref (101 + 3 * i)), some (.int (a)), some (.int (b)), some (.int (c)), some (.int (nI ((r.length) + 1))), some (.int (nI (q))), some (.int (61)), some (.int (2)), some (.int (x)), some (.int (y))]) m14_515 rfl (nI_1 _) rfl rfl ?_
            refine g_iinc (L2 := [some (.ref (101 + 3 * i)), some (.int (a)), some (.int (b)), some (.int (c)), some (.int (nI ((r.length) + 1))), some (.int (nI (q + 1))), some (.int (61)), some (.int (2)), some (.int (x)), some (.int (y))]) m14_518 rfl (nI_1 _) rfl rfl ?_
            refine g_goto m14_521 ?_
            rw [ev_61] at hev
            obtain rfl := Option.some.inj hev
            exact ih (q + 1) _ _ _ _ _ _ (by omega) hs2 (by show r.length + 1 ≤ q + 1; omega) (Stk_pushE (by simp [c10]) rfl hst.2.2) (EqM_w hE _ _ _)
      by_cases hk62 : kk = 62
      · subst hk62
        match s, hl, hst, hev with
        | [], _, _, hev => cases hev
        | [_], _, _, hev => cases hev
        | y :: x :: r, hl, hst, hev =>
          have hl2 : r.length + 1 + 1 ≤ q := hl
          refine g_iload m14_6 rfl ?_
          refine g_aload_n m14_8 rfl ?_
          refine h_gfR (c := 102 + 3 * i) (k := 69 + 3 * i) (p := 101 + 3 * i) m14_9 (pLo _) (tLo hi) rfl (le3 (Nat.le_of_ble_eq_true rfl)) ?_
          refine h_alen (k := 70 + 3 * i) (p := 102 + 3 * i) m14_12 (pLc _) (tLc hi) (Or.inl rfl) ?_
          refine h_ic_geF (xi := ((q : Nat) : Int)) (zi := ((ln i : Nat) : Int)) m14_13 (nI_toInt (by omega)) (nI_toInt (by omega)) (by omega) ?_
          refine g_aload_n m14_16 rfl ?_
          refine h_gfR (c := 102 + 3 * i) (k := 69 + 3 * i) (p := 101 + 3 * i) m14_17 (pLo _) (tLo hi) rfl (le3 (Nat.le_of_ble_eq_true rfl)) ?_
          refine g_iload m14_20 rfl ?_
          refine h_ial (k := 70 + 3 * i) (p := 102 + 3 * i) (j := q) m14_22 (pLc _) (tLc hi) (rfl) (by omega) (by omega) (he0) ?_
          refine g_istore (L2 := [some (.ref (101 + 3 * i)), some (.int (a)), some (.int (b)), some (.int (c)), some (.int (nI ((y :: x :: r).length))), some (.int (nI (q))), some (.int (62)), o7, o8, o9]) m14_23 rfl rfl ?_
          refine g_iload m14_25 rfl ?_
          refine g_sipush m14_27 ?_
          refine h_ic_geF (xi := 62) (zi := 1000) m14_30 rfl rfl (by decide) ?_
          refine g_iload m14_33 rfl ?_
          refine g_iconst m14_35 ?_
          refine h_ic_geT (xi := 62) (zi := 3) m14_36 rfl rfl (by decide) ?_
          refine g_iload m14_43 rfl ?_
          refine g_bipush m14_45 ?_
          refine h_ic_neF (xi := 62) (zi := 33) m14_47 rfl rfl (by decide) ?_
          refine g_iconst m14_54 ?_
          refine g_istore (L2 := [some (.ref (101 + 3 * i)), some (.int (a)), some (.int (b)), some (.int (c)), some (.int (nI ((y :: x :: r).length))), some (.int (nI (q))), some (.int (62)), some (.int (2)), o8, o9]) m14_55 rfl rfl ?_
          refine g_iload m14_57 rfl ?_
          refine g_iload m14_59 rfl ?_
          refine g_isub (u := nI (r.length)) m14_61 (pk_sub (a := r.length + 1 + 1) (b := 2) (by omega)) ?_
          refine g_istore (L2 := [some (.ref (101 + 3 * i)), some (.int (a)), some (.int (b)), some (.int (c)), some (.int (nI (r.length))), some (.int (nI (q))), some (.int (62)), some (.int (2)), o8, o9]) m14_62 rfl rfl ?_
          refine g_iload m14_64 rfl ?_
          refine h_if_ltF (xi := ((r.length : Nat) : Int)) (zi := 0) m14_66 (nI_toInt (by omega)) rfl (by omega) ?_
          refine g_iload m14_69 rfl ?_
          refine g_aload_n m14_71 rfl ?_
          refine h_gfR (c := 103 + 3 * i) (k := 69 + 3 * i) (p := 101 + 3 * i) m14_72 (pLo _) (tLo hi) rfl (le3 (Nat.le_of_ble_eq_true rfl)) ?_
          refine h_alen (k := 71 + 3 * i) (p := 103 + 3 * i) m14_75 (pLw _) (tLw hi) (Or.inl rfl) ?_
          refine h_ic_ltT (xi := ((r.length : Nat) : Int)) (zi := ((ln i : Nat) : Int)) m14_76 (nI_toInt (by omega)) (nI_toInt (by omega)) (by omega) ?_
          refine g_aload_n m14_81 rfl ?_
          refine h_gfR (c := 103 + 3 * i) (k := 69 + 3 * i) (p := 101 + 3 * i) m14_82 (pLo _) (tLo hi) rfl (le3 (Nat.le_of_ble_eq_true rfl)) ?_
          refine g_iload m14_85 rfl ?_
          refine h_ial (k := 71 + 3 * i) (p := 103 + 3 * i) (j := r.length) m14_87 (pLw _) (tLw hi) (rfl) (by omega) (by omega) (hst.2.1) ?_
          refine g_istore (L2 := [some (.ref (101 + 3 * i)), some (.int (a)), some (.int (b)), some (.int (c)), some (.int (nI (r.length))), some (.int (nI (q))), some (.int (62)), some (.int (2)), some (.int (x)), o9]) m14_88 rfl rfl ?_
          refine g_iload m14_90 rfl ?_
          refine g_iconst m14_92 ?_
          refine g_iadd (u := nI ((r.length) + 1)) m14_93 (nI_add (r.length) 1) ?_
          refine g_aload_n m14_94 rfl ?_
          refine h_gfR (c := 103 + 3 * i) (k := 69 + 3 * i) (p := 101 + 3 * i) m14_95 (pLo _) (tLo hi) rfl (le3 (Nat.le_of_ble_eq_true rfl)) ?_
          refine h_alen (k := 71 + 3 * i) (p := 103 + 3 * i) m14_98 (pLw _) (tLw hi) (Or.inl rfl) ?_
          refine h_ic_geF (xi := (((r.length) + 1 : Nat) : Int)) (zi := ((ln i : Nat) : Int)) m14_99 (nI_toInt (by omega)) (nI_toInt (by omega)) (by omega) ?_
          refine g_aload_n m14_102 rfl ?_
          refine h_gfR (c := 103 + 3 * i) (k := 69 + 3 * i) (p := 101 + 3 * i) m14_103 (pLo _) (tLo hi) rfl (le3 (Nat.le_of_ble_eq_true rfl)) ?_
          refine g_iload m14_106 rfl ?_
          refine g_iconst m14_108 ?_
          refine g_iadd (u := nI ((r.length) + 1)) m14_109 (nI_add (r.length) 1) ?_
          refine h_ial (k := 71 + 3 * i) (p := 103 + 3 * i) (j := r.length + 1) m14_110 (pLw _) (tLw hi) (rfl) (by omega) (by omega) (hst.1) ?_
          refine g_goto m14_111 ?_
          refine g_istore (L2 := [some (.ref (101 + 3 * i)), some (.int (a)), some (.int (b)), some (.int (c)), some (.int (nI (r.length))), some (.int (nI (q))), some (.int (62)), some (.int (2)), some (.int (x)), some (.int (y))]) m14_115 rfl rfl ?_
          refine g_iload m14_117 rfl ?_
          refine gs m14_119 ?_
          refine gwpc (pc' := 430) rfl ?_
          refine g_aload_n m14_430 rfl ?_
          refine h_gfR (c := 103 + 3 * i) (k := 69 + 3 * i) (p := 101 + 3 * i) m14_431 (pLo _) (tLo hi) rfl (le3 (Nat.le_of_ble_eq_true rfl)) ?_
          refine g_iload m14_434 rfl ?_
          refine g_iload m14_436 rfl ?_
          refine g_iload m14_438 rfl ?_
          refine h_ic_le (xi := _) (zi := _) m14_440 rfl rfl (fun c11 => ?_) (fun c11 => ?_)
          · skip
            refine g_iconst m14_447 ?_
            refine h_ias (k := 71 + 3 * i) (p := 103 + 3 * i) (j := r.length) m14_448 (pLw _) (tLw hi) (rfl) (by omega) (by omega) ?_
            refine g_goto m14_449 ?_
            refine gwl (L' := [some (.ref (101 + 3 * i)), some (.int a), some (.int b), some (.int c), some (.int (nI (r.length))), some (.int (nI q)), _, _, _, _]) rfl ?_
            refine g_iinc (L2 := [some (.ref (101 + 3 * i)), some (.int (a)), some (.int (b)), some (.int (c)), some (.int (nI ((r.length) + 1))), some (.int (nI (q))), some (.int (62)), some (.int (2)), some (.int (x)), some (.int (y))]) m14_515 rfl (nI_1 _) rfl rfl ?_
            refine g_iinc (L2 := [some (.ref (101 + 3 * i)), some (.int (a)), some (.int (b)), some (.int (c)), some (.int (nI ((r.length) + 1))), some (.int (nI (q + 1))), some (.int (62)), some (.int (2)), some (.int (x)), some (.int (y))]) m14_518 rfl (nI_1 _) rfl rfl ?_
            refine g_goto m14_521 ?_
            rw [ev_62] at hev
            obtain rfl := Option.some.inj hev
            exact ih (q + 1) _ _ _ _ _ _ (by omega) hs2 (by show r.length + 1 ≤ q + 1; omega) (Stk_pushE (by simp [c11]) rfl hst.2.2) (EqM_w hE _ _ _)
          · skip
            refine g_iconst m14_443 ?_
            refine g_goto m14_444 ?_
            refine h_ias (k := 71 + 3 * i) (p := 103 + 3 * i) (j := r.length) m14_448 (pLw _) (tLw hi) (rfl) (by omega) (by omega) ?_
            refine g_goto m14_449 ?_
            refine gwl (L' := [some (.ref (101 + 3 * i)), some (.int a), some (.int b), some (.int c), some (.int (nI (r.length))), some (.int (nI q)), _, _, _, _]) rfl ?_
            refine g_iinc (L2 := [some (.ref (101 + 3 * i)), some (.int (a)), some (.int (b)), some (.int (c)), some (.int (nI ((r.length) + 1))), some (.int (nI (q))), some (.int (62)), some (.int (2)), some (.int (x)), some (.int (y))]) m14_515 rfl (nI_1 _) rfl rfl ?_
            refine g_iinc (L2 := [some (.ref (101 + 3 * i)), some (.int (a)), some (.int (b)), some (.int (c)), some (.int (nI ((r.length) + 1))), some (.int (nI (q + 1))), some (.int (62)), some (.int (2)), some (.int (x)), some (.int (y))]) m14_518 rfl (nI_1 _) rfl rfl ?_
            refine g_goto m14_521 ?_
            rw [ev_62] at hev
            obtain rfl := Option.some.inj hev
            exact ih (q + 1) _ _ _ _ _ _ (by omega) hs2 (by show r.length + 1 ≤ q + 1; omega) (Stk_pushE (by simp [c11]) rfl hst.2.2) (EqM_w hE _ _ _)
      by_cases hk38 : kk = 38
      · subst hk38
        match s, hl, hst, hev with
        | [], _, _, hev => cases hev
        | [_], _, _, hev => cases hev
        | y :: x :: r, hl, hst, hev =>
          have hl2 : r.length + 1 + 1 ≤ q := hl
          refine g_iload m14_6 rfl ?_
          refine g_aload_n m14_8 rfl ?_
          refine h_gfR (c := 102 + 3 * i) (k := 69 + 3 * i) (p := 101 + 3 * i) m14_9 (pLo _) (tLo hi) rfl (le3 (Nat.le_of_ble_eq_true rfl)) ?_
          refine h_alen (k := 70 + 3 * i) (p := 102 + 3 * i) m14_12 (pLc _) (tLc hi) (Or.inl rfl) ?_
          refine h_ic_geF (xi := ((q : Nat) : Int)) (zi := ((ln i : Nat) : Int)) m14_13 (nI_toInt (by omega)) (nI_toInt (by omega)) (by omega) ?_
          refine g_aload_n m14_16 rfl ?_
          refine h_gfR (c := 102 + 3 * i) (k := 69 + 3 * i) (p := 101 + 3 * i) m14_17 (pLo _) (tLo hi) rfl (le3 (Nat.le_of_ble_eq_true rfl)) ?_
          refine g_iload m14_20 rfl ?_
          refine h_ial (k := 70 + 3 * i) (p := 102 + 3 * i) (j := q) m14_22 (pLc _) (tLc hi) (rfl) (by omega) (by omega) (he0) ?_
          refine g_istore (L2 := [some (.ref (101 + 3 * i)), some (.int (a)), some (.int (b)), some (.int (c)), some (.int (nI ((y :: x :: r).length))), some (.int (nI (q))), some (.int (38)), o7, o8, o9]) m14_23 rfl rfl ?_
          refine g_iload m14_25 rfl ?_
          refine g_sipush m14_27 ?_
          refine h_ic_geF (xi := 38) (zi := 1000) m14_30 rfl rfl (by decide) ?_
          refine g_iload m14_33 rfl ?_
          refine g_iconst m14_35 ?_
          refine h_ic_geT (xi := 38) (zi := 3) m14_36 rfl rfl (by decide) ?_
          refine g_iload m14_43 rfl ?_
          refine g_bipush m14_45 ?_
          refine h_ic_neF (xi := 38) (zi := 33) m14_47 rfl rfl (by decide) ?_
          refine g_iconst m14_54 ?_
          refine g_istore (L2 := [some (.ref (101 + 3 * i)), some (.int (a)), some (.int (b)), some (.int (c)), some (.int (nI ((y :: x :: r).length))), some (.int (nI (q))), some (.int (38)), some (.int (2)), o8, o9]) m14_55 rfl rfl ?_
          refine g_iload m14_57 rfl ?_
          refine g_iload m14_59 rfl ?_
          refine g_isub (u := nI (r.length)) m14_61 (pk_sub (a := r.length + 1 + 1) (b := 2) (by omega)) ?_
          refine g_istore (L2 := [some (.ref (101 + 3 * i)), some (.int (a)), some (.int (b)), some (.int (c)), some (.int (nI (r.length))), some (.int (nI (q))), some (.int (38)), some (.int (2)), o8, o9]) m14_62 rfl rfl ?_
          refine g_iload m14_64 rfl ?_
          refine h_if_ltF (xi := ((r.length : Nat) : Int)) (zi := 0) m14_66 (nI_toInt (by omega)) rfl (by omega) ?_
          refine g_iload m14_69 rfl ?_
          refine g_aload_n m14_71 rfl ?_
          refine h_gfR (c := 103 + 3 * i) (k := 69 + 3 * i) (p := 101 + 3 * i) m14_72 (pLo _) (tLo hi) rfl (le3 (Nat.le_of_ble_eq_true rfl)) ?_
          refine h_alen (k := 71 + 3 * i) (p := 103 + 3 * i) m14_75 (pLw _) (tLw hi) (Or.inl rfl) ?_
          refine h_ic_ltT (xi := ((r.length : Nat) : Int)) (zi := ((ln i : Nat) : Int)) m14_76 (nI_toInt (by omega)) (nI_toInt (by omega)) (by omega) ?_
          refine g_aload_n m14_81 rfl ?_
          refine h_gfR (c := 103 + 3 * i) (k := 69 + 3 * i) (p := 101 + 3 * i) m14_82 (pLo _) (tLo hi) rfl (le3 (Nat.le_of_ble_eq_true rfl)) ?_
          refine g_iload m14_85 rfl ?_
          refine h_ial (k := 71 + 3 * i) (p := 103 + 3 * i) (j := r.length) m14_87 (pLw _) (tLw hi) (rfl) (by omega) (by omega) (hst.2.1) ?_
          refine g_istore (L2 := [some (.ref (101 + 3 * i)), some (.int (a)), some (.int (b)), some (.int (c)), some (.int (nI (r.length))), some (.int (nI (q))), some (.int (38)), some (.int (2)), some (.int (x)), o9]) m14_88 rfl rfl ?_
          refine g_iload m14_90 rfl ?_
          refine g_iconst m14_92 ?_
          refine g_iadd (u := nI ((r.length) + 1)) m14_93 (nI_add (r.length) 1) ?_
          refine g_aload_n m14_94 rfl ?_
          refine h_gfR (c := 103 + 3 * i) (k := 69 + 3 * i) (p := 101 + 3 * i) m14_95 (pLo _) (tLo hi) rfl (le3 (Nat.le_of_ble_eq_true rfl)) ?_
          refine h_alen (k := 71 + 3 * i) (p := 103 + 3 * i) m14_98 (pLw _) (tLw hi) (Or.inl rfl) ?_
          refine h_ic_geF (xi := (((r.length) + 1 : Nat) : Int)) (zi := ((ln i : Nat) : Int)) m14_99 (nI_toInt (by omega)) (nI_toInt (by omega)) (by omega) ?_
          refine g_aload_n m14_102 rfl ?_
          refine h_gfR (c := 103 + 3 * i) (k := 69 + 3 * i) (p := 101 + 3 * i) m14_103 (pLo _) (tLo hi) rfl (le3 (Nat.le_of_ble_eq_true rfl)) ?_
          refine g_iload m14_106 rfl ?_
          refine g_iconst m14_108 ?_
          refine g_iadd (u := nI ((r.length) + 1)) m14_109 (nI_add (r.length) 1) ?_
          refine h_ial (k := 71 + 3 * i) (p := 103 + 3 * i) (j := r.length + 1) m14_110 (pLw _) (tLw hi) (rfl) (by omega) (by omega) (hst.1) ?_
          refine g_goto m14_111 ?_
          refine g_istore (L2 := [some (.ref (101 + 3 * i)), some (.int (a)), some (.int (b)), some (.int (c)), some (.int (nI (r.length))), some (.int (nI (q))), some (.int (38)), some (.int (2)), some (.int (x)), some (.int (y))]) m14_115 rfl rfl ?_
          refine g_iload m14_117 rfl ?_
          refine gs m14_119 ?_
          refine gwpc (pc' := 452) rfl ?_
          refine g_aload_n m14_452 rfl ?_
          refine h_gfR (c := 103 + 3 * i) (k := 69 + 3 * i) (p := 101 + 3 * i) m14_453 (pLo _) (tLo hi) rfl (le3 (Nat.le_of_ble_eq_true rfl)) ?_
          refine g_iload m14_456 rfl ?_
          refine g_iload m14_458 rfl ?_
          refine h_if_eq (xi := _) (zi := 0) m14_460 rfl rfl (fun c12 => ?_) (fun c12 => ?_)
          · skip
            refine g_iconst m14_472 ?_
            refine h_ias (k := 71 + 3 * i) (p := 103 + 3 * i) (j := r.length) m14_473 (pLw _) (tLw hi) (rfl) (by omega) (by omega) ?_
            refine g_goto m14_474 ?_
            refine gwl (L' := [some (.ref (101 + 3 * i)), some (.int a), some (.int b), some (.int c), some (.int (nI (r.length))), some (.int (nI q)), _, _, _, _]) rfl ?_
            refine g_iinc (L2 := [some (.ref (101 + 3 * i)), some (.int (a)), some (.int (b)), some (.int (c)), some (.int (nI ((r.length) + 1))), some (.int (nI (q))), some (.int (38)), some (.int (2)), some (.int (x)), some (.int (y))]) m14_515 rfl (nI_1 _) rfl rfl ?_
            refine g_iinc (L2 := [some (.ref (101 + 3 * i)), some (.int (a)), some (.int (b)), some (.int (c)), some (.int (nI ((r.length) + 1))), some (.int (nI (q + 1))), some (.int (38)), some (.int (2)), some (.int (x)), some (.int (y))]) m14_518 rfl (nI_1 _) rfl rfl ?_
            refine g_goto m14_521 ?_
            rw [ev_38] at hev
            obtain rfl := Option.some.inj hev
            exact ih (q + 1) _ _ _ _ _ _ (by omega) hs2 (by show r.length + 1 ≤ q + 1; omega) (Stk_pushE (by simp [c12]) rfl hst.2.2) (EqM_w hE _ _ _)
          · skip
            refine g_iload m14_463 rfl ?_
            refine h_if_eq (xi := _) (zi := 0) m14_465 rfl rfl (fun c13 => ?_) (fun c13 => ?_)
            · skip
              refine g_iconst m14_472 ?_
              refine h_ias (k := 71 + 3 * i) (p := 103 + 3 * i) (j := r.length) m14_473 (pLw _) (tLw hi) (rfl) (by omega) (by omega) ?_
              refine g_goto m14_474 ?_
              refine gwl (L' := [some (.ref (101 + 3 * i)), some (.int a), some (.int b), some (.int c), some (.int (nI (r.length))), some (.int (nI q)), _, _, _, _]) rfl ?_
              refine g_iinc (L2 := [some (.ref (101 + 3 * i)), some (.int (a)), some (.int (b)), some (.int (c)), some (.int (nI ((r.length) + 1))), some (.int (nI (q))), some (.int (38)), some (.int (2)), some (.int (x)), some (.int (y))]) m14_515 rfl (nI_1 _) rfl rfl ?_
              refine g_iinc (L2 := [some (.ref (101 + 3 * i)), some (.int (a)), some (.int (b)), some (.int (c)), some (.int (nI ((r.length) + 1))), some (.int (nI (q + 1))), some (.int (38)), some (.int (2)), some (.int (x)), some (.int (y))]) m14_518 rfl (nI_1 _) rfl rfl ?_
              refine g_goto m14_521 ?_
              rw [ev_38] at hev
              obtain rfl := Option.some.inj hev
              exact ih (q + 1) _ _ _ _ _ _ (by omega) hs2 (by show r.length + 1 ≤ q + 1; omega) (Stk_pushE (by simp [c12, c13]) rfl hst.2.2) (EqM_w hE _ _ _)
            · skip
              refine g_iconst m14_468 ?_
              refine g_goto m14_469 ?_
              refine h_ias (k := 71 + 3 * i) (p := 103 + 3 * i) (j := r.length) m14_473 (pLw _) (tLw hi) (rfl) (by omega) (by omega) ?_
              refine g_goto m14_474 ?_
              refine gwl (L' := [some (.ref (101 + 3 * i)), some (.int a), some (.int b), some (.int c), some (.int (nI (r.length))), some (.int (nI q)), _, _, _, _]) rfl ?_
              refine g_iinc (L2 := [some (.ref (101 + 3 * i)), some (.int (a)), some (.int (b)), some (.int (c)), some (.int (nI ((r.length) + 1))), some (.int (nI (q))), some (.int (38)), some (.int (2)), some (.int (x)), some (.int (y))]) m14_515 rfl (nI_1 _) rfl rfl ?_
              refine g_iinc (L2 := [some (.ref (101 + 3 * i)), some (.int (a)), some (.int (b)), some (.int (c)), some (.int (nI ((r.length) + 1))), some (.int (nI (q + 1))), some (.int (38)), some (.int (2)), some (.int (x)), some (.int (y))]) m14_518 rfl (nI_1 _) rfl rfl ?_
              refine g_goto m14_521 ?_
              rw [ev_38] at hev
              obtain rfl := Option.some.inj hev
              exact ih (q + 1) _ _ _ _ _ _ (by omega) hs2 (by show r.length + 1 ≤ q + 1; omega) (Stk_pushE (by simp [c12, c13]) rfl hst.2.2) (EqM_w hE _ _ _)
      by_cases hk124 : kk = 124
      · subst hk124
        match s, hl, hst, hev with
        | [], _, _, hev => cases hev
        | [_], _, _, hev => cases hev
        | y :: x :: r, hl, hst, hev =>
          have hl2 : r.length + 1 + 1 ≤ q := hl
          refine g_iload m14_6 rfl ?_
          refine g_aload_n m14_8 rfl ?_
          refine h_gfR (c := 102 + 3 * i) (k := 69 + 3 * i) (p := 101 + 3 * i) m14_9 (pLo _) (tLo hi) rfl (le3 (Nat.le_of_ble_eq_true rfl)) ?_
          refine h_alen (k := 70 + 3 * i) (p := 102 + 3 * i) m14_12 (pLc _) (tLc hi) (Or.inl rfl) ?_
          refine h_ic_geF (xi := ((q : Nat) : Int)) (zi := ((ln i : Nat) : Int)) m14_13 (nI_toInt (by omega)) (nI_toInt (by omega)) (by omega) ?_
          refine g_aload_n m14_16 rfl ?_
          refine h_gfR (c := 102 + 3 * i) (k := 69 + 3 * i) (p := 101 + 3 * i) m14_17 (pLo _) (tLo hi) rfl (le3 (Nat.le_of_ble_eq_true rfl)) ?_
          refine g_iload m14_20 rfl ?_
          refine h_ial (k := 70 + 3 * i) (p := 102 + 3 * i) (j := q) m14_22 (pLc _) (tLc hi) (rfl) (by omega) (by omega) (he0) ?_
          refine g_istore (L2 := [some (.ref (101 + 3 * i)), some (.int (a)), some (.int (b)), some (.int (c)), some (.int (nI ((y :: x :: r).length))), some (.int (nI (q))), some (.int (124)), o7, o8, o9]) m14_23 rfl rfl ?_
          refine g_iload m14_25 rfl ?_
          refine g_sipush m14_27 ?_
          refine h_ic_geF (xi := 124) (zi := 1000) m14_30 rfl rfl (by decide) ?_
          refine g_iload m14_33 rfl ?_
          refine g_iconst m14_35 ?_
          refine h_ic_geT (xi := 124) (zi := 3) m14_36 rfl rfl (by decide) ?_
          refine g_iload m14_43 rfl ?_
          refine g_bipush m14_45 ?_
          refine h_ic_neF (xi := 124) (zi := 33) m14_47 rfl rfl (by decide) ?_
          refine g_iconst m14_54 ?_
          refine g_istore (L2 := [some (.ref (101 + 3 * i)), some (.int (a)), some (.int (b)), some (.int (c)), some (.int (nI ((y :: x :: r).length))), some (.int (nI (q))), some (.int (124)), some (.int (2)), o8, o9]) m14_55 rfl rfl ?_
          refine g_iload m14_57 rfl ?_
          refine g_iload m14_59 rfl ?_
          refine g_isub (u := nI (r.length)) m14_61 (pk_sub (a := r.length + 1 + 1) (b := 2) (by omega)) ?_
          refine g_istore (L2 := [some (.ref (101 + 3 * i)), some (.int (a)), some (.int (b)), some (.int (c)), some (.int (nI (r.length))), some (.int (nI (q))), some (.int (124)), some (.int (2)), o8, o9]) m14_62 rfl rfl ?_
          refine g_iload m14_64 rfl ?_
          refine h_if_ltF (xi := ((r.length : Nat) : Int)) (zi := 0) m14_66 (nI_toInt (by omega)) rfl (by omega) ?_
          refine g_iload m14_69 rfl ?_
          refine g_aload_n m14_71 rfl ?_
          refine h_gfR (c := 103 + 3 * i) (k := 69 + 3 * i) (p := 101 + 3 * i) m14_72 (pLo _) (tLo hi) rfl (le3 (Nat.le_of_ble_eq_true rfl)) ?_
          refine h_alen (k := 71 + 3 * i) (p := 103 + 3 * i) m14_75 (pLw _) (tLw hi) (Or.inl rfl) ?_
          refine h_ic_ltT (xi := ((r.length : Nat) : Int)) (zi := ((ln i : Nat) : Int)) m14_76 (nI_toInt (by omega)) (nI_toInt (by omega)) (by omega) ?_
          refine g_aload_n m14_81 rfl ?_
          refine h_gfR (c := 103 + 3 * i) (k := 69 + 3 * i) (p := 101 + 3 * i) m14_82 (pLo _) (tLo hi) rfl (le3 (Nat.le_of_ble_eq_true rfl)) ?_
          refine g_iload m14_85 rfl ?_
          refine h_ial (k := 71 + 3 * i) (p := 103 + 3 * i) (j := r.length) m14_87 (pLw _) (tLw hi) (rfl) (by omega) (by omega) (hst.2.1) ?_
          refine g_istore (L2 := [some (.ref (101 + 3 * i)), some (.int (a)), some (.int (b)), some (.int (c)), some (.int (nI (r.length))), some (.int (nI (q))), some (.int (124)), some (.int (2)), some (.int (x)), o9]) m14_88 rfl rfl ?_
          refine g_iload m14_90 rfl ?_
          refine g_iconst m14_92 ?_
          refine g_iadd (u := nI ((r.length) + 1)) m14_93 (nI_add (r.length) 1) ?_
          refine g_aload_n m14_94 rfl ?_
          refine h_gfR (c := 103 + 3 * i) (k := 69 + 3 * i) (p := 101 + 3 * i) m14_95 (pLo _) (tLo hi) rfl (le3 (Nat.le_of_ble_eq_true rfl)) ?_
          refine h_alen (k := 71 + 3 * i) (p := 103 + 3 * i) m14_98 (pLw _) (tLw hi) (Or.inl rfl) ?_
          refine h_ic_geF (xi := (((r.length) + 1 : Nat) : Int)) (zi := ((ln i : Nat) : Int)) m14_99 (nI_toInt (by omega)) (nI_toInt (by omega)) (by omega) ?_
          refine g_aload_n m14_102 rfl ?_
          refine h_gfR (c := 103 + 3 * i) (k := 69 + 3 * i) (p := 101 + 3 * i) m14_103 (pLo _) (tLo hi) rfl (le3 (Nat.le_of_ble_eq_true rfl)) ?_
          refine g_iload m14_106 rfl ?_
          refine g_iconst m14_108 ?_
          refine g_iadd (u := nI ((r.length) + 1)) m14_109 (nI_add (r.length) 1) ?_
          refine h_ial (k := 71 + 3 * i) (p := 103 + 3 * i) (j := r.length + 1) m14_110 (pLw _) (tLw hi) (rfl) (by omega) (by omega) (hst.1) ?_
          refine g_goto m14_111 ?_
          refine g_istore (L2 := [some (.ref (101 + 3 * i)), some (.int (a)), some (.int (b)), some (.int (c)), some (.int (nI (r.length))), some (.int (nI (q))), some (.int (124)), some (.int (2)), some (.int (x)), some (.int (y))]) m14_115 rfl rfl ?_
          refine g_iload m14_117 rfl ?_
          refine gs m14_119 ?_
          refine gwpc (pc' := 477) rfl ?_
          refine g_aload_n m14_477 rfl ?_
          refine h_gfR (c := 103 + 3 * i) (k := 69 + 3 * i) (p := 101 + 3 * i) m14_478 (pLo _) (tLo hi) rfl (le3 (Nat.le_of_ble_eq_true rfl)) ?_
          refine g_iload m14_481 rfl ?_
          refine g_iload m14_483 rfl ?_
          refine h_if_ne (xi := _) (zi := 0) m14_485 rfl rfl (fun c14 => ?_) (fun c14 => ?_)
          · skip
            refine g_iload m14_488 rfl ?_
            refine h_if_eq (xi := _) (zi := 0) m14_490 rfl rfl (fun c15 => ?_) (fun c15 => ?_)
            · skip
              refine g_iconst m14_497 ?_
              refine h_ias (k := 71 + 3 * i) (p := 103 + 3 * i) (j := r.length) m14_498 (pLw _) (tLw hi) (rfl) (by omega) (by omega) ?_
              refine g_goto m14_499 ?_
              refine gwl (L' := [some (.ref (101 + 3 * i)), some (.int a), some (.int b), some (.int c), some (.int (nI (r.length))), some (.int (nI q)), _, _, _, _]) rfl ?_
              refine g_iinc (L2 := [some (.ref (101 + 3 * i)), some (.int (a)), some (.int (b)), some (.int (c)), some (.int (nI ((r.length) + 1))), some (.int (nI (q))), some (.int (124)), some (.int (2)), some (.int (x)), some (.int (y))]) m14_515 rfl (nI_1 _) rfl rfl ?_
              refine g_iinc (L2 := [some (.ref (101 + 3 * i)), some (.int (a)), some (.int (b)), some (.int (c)), some (.int (nI ((r.length) + 1))), some (.int (nI (q + 1))), some (.int (124)), some (.int (2)), some (.int (x)), some (.int (y))]) m14_518 rfl (nI_1 _) rfl rfl ?_
              refine g_goto m14_521 ?_
              rw [ev_124] at hev
              obtain rfl := Option.some.inj hev
              exact ih (q + 1) _ _ _ _ _ _ (by omega) hs2 (by show r.length + 1 ≤ q + 1; omega) (Stk_pushE (by simp [c14, c15]) rfl hst.2.2) (EqM_w hE _ _ _)
            · skip
              refine g_iconst m14_493 ?_
              refine g_goto m14_494 ?_
              refine h_ias (k := 71 + 3 * i) (p := 103 + 3 * i) (j := r.length) m14_498 (pLw _) (tLw hi) (rfl) (by omega) (by omega) ?_
              refine g_goto m14_499 ?_
              refine gwl (L' := [some (.ref (101 + 3 * i)), some (.int a), some (.int b), some (.int c), some (.int (nI (r.length))), some (.int (nI q)), _, _, _, _]) rfl ?_
              refine g_iinc (L2 := [some (.ref (101 + 3 * i)), some (.int (a)), some (.int (b)), some (.int (c)), some (.int (nI ((r.length) + 1))), some (.int (nI (q))), some (.int (124)), some (.int (2)), some (.int (x)), some (.int (y))]) m14_515 rfl (nI_1 _) rfl rfl ?_
              refine g_iinc (L2 := [some (.ref (101 + 3 * i)), some (.int (a)), some (.int (b)), some (.int (c)), some (.int (nI ((r.length) + 1))), some (.int (nI (q + 1))), some (.int (124)), some (.int (2)), some (.int (x)), some (.int (y))]) m14_518 rfl (nI_1 _) rfl rfl ?_
              refine g_goto m14_521 ?_
              rw [ev_124] at hev
              obtain rfl := Option.some.inj hev
              exact ih (q + 1) _ _ _ _ _ _ (by omega) hs2 (by show r.length + 1 ≤ q + 1; omega) (Stk_pushE (by simp [c14, c15]) rfl hst.2.2) (EqM_w hE _ _ _)
          · skip
            refine g_iconst m14_493 ?_
            refine g_goto m14_494 ?_
            refine h_ias (k := 71 + 3 * i) (p := 103 + 3 * i) (j := r.length) m14_498 (pLw _) (tLw hi) (rfl) (by omega) (by omega) ?_
            refine g_goto m14_499 ?_
            refine gwl (L' := [some (.ref (101 + 3 * i)), some (.int a), some (.int b), some (.int c), some (.int (nI (r.length))), some (.int (nI q)), _, _, _, _]) rfl ?_
            refine g_iinc (L2 := [some (.ref (101 + 3 * i)), some (.int (a)), some (.int (b)), some (.int (c)), some (.int (nI ((r.length) + 1))), some (.int (nI (q))), some (.int (124)), some (.int (2)), some (.int (x)), some (.int (y))]) m14_515 rfl (nI_1 _) rfl rfl ?_
            refine g_iinc (L2 := [some (.ref (101 + 3 * i)), some (.int (a)), some (.int (b)), some (.int (c)), some (.int (nI ((r.length) + 1))), some (.int (nI (q + 1))), some (.int (124)), some (.int (2)), some (.int (x)), some (.int (y))]) m14_518 rfl (nI_1 _) rfl rfl ?_
            refine g_goto m14_521 ?_
            rw [ev_124] at hev
            obtain rfl := Option.some.inj hev
            exact ih (q + 1) _ _ _ _ _ _ (by omega) hs2 (by show r.length + 1 ≤ q + 1; omega) (Stk_pushE (by simp [c14]) rfl hst.2.2) (EqM_w hE _ _ _)
      by_cases hkn : 1000 ≤ kk.toInt ∨ kk.toInt < 0
      · skip
        refine g_iload m14_6 rfl ?_
        refine g_aload_n m14_8 rfl ?_
        refine h_gfR (c := 102 + 3 * i) (k := 69 + 3 * i) (p := 101 + 3 * i) m14_9 (pLo _) (tLo hi) rfl (le3 (Nat.le_of_ble_eq_true rfl)) ?_
        refine h_alen (k := 70 + 3 * i) (p := 102 + 3 * i) m14_12 (pLc _) (tLc hi) (Or.inl rfl) ?_
        refine h_ic_geF (xi := ((q : Nat) : Int)) (zi := ((ln i : Nat) : Int)) m14_13 (nI_toInt (by omega)) (nI_toInt (by omega)) (by omega) ?_
        refine g_aload_n m14_16 rfl ?_
        refine h_gfR (c := 102 + 3 * i) (k := 69 + 3 * i) (p := 101 + 3 * i) m14_17 (pLo _) (tLo hi) rfl (le3 (Nat.le_of_ble_eq_true rfl)) ?_
        refine g_iload m14_20 rfl ?_
        refine h_ial (k := 70 + 3 * i) (p := 102 + 3 * i) (j := q) m14_22 (pLc _) (tLc hi) (rfl) (by omega) (by omega) (he0) ?_
        refine g_istore (L2 := [some (.ref (101 + 3 * i)), some (.int (a)), some (.int (b)), some (.int (c)), some (.int (nI (s.length))), some (.int (nI (q))), some (.int (kk)), o7, o8, o9]) m14_23 rfl rfl ?_
        refine g_iload m14_25 rfl ?_
        refine g_sipush m14_27 ?_
        refine h_ic_ge (xi := kk.toInt) (zi := 1000) m14_30 rfl rfl (fun c16 => ?_) (fun c16 => ?_)
        · skip
          refine g_iconst m14_39 ?_
          refine g_goto m14_40 ?_
          refine g_istore (L2 := [some (.ref (101 + 3 * i)), some (.int (a)), some (.int (b)), some (.int (c)), some (.int (nI (s.length))), some (.int (nI (q))), some (.int (kk)), some (.int (0)), o8, o9]) m14_55 rfl rfl ?_
          refine g_iload m14_57 rfl ?_
          refine g_iload m14_59 rfl ?_
          refine g_isub (u := nI (s.length)) m14_61 (by show nI s.length - nI 0 = nI s.length; rw [pk_sub (Nat.zero_le _), Nat.sub_zero]) ?_
          refine g_istore (L2 := [some (.ref (101 + 3 * i)), some (.int (a)), some (.int (b)), some (.int (c)), some (.int (nI (s.length))), some (.int (nI (q))), some (.int (kk)), some (.int (0)), o8, o9]) m14_62 rfl rfl ?_
          refine g_iload m14_64 rfl ?_
          refine h_if_ltF (xi := ((s.length : Nat) : Int)) (zi := 0) m14_66 (nI_toInt (by omega)) rfl (by omega) ?_
          refine g_iload m14_69 rfl ?_
          refine g_aload_n m14_71 rfl ?_
          refine h_gfR (c := 103 + 3 * i) (k := 69 + 3 * i) (p := 101 + 3 * i) m14_72 (pLo _) (tLo hi) rfl (le3 (Nat.le_of_ble_eq_true rfl)) ?_
          refine h_alen (k := 71 + 3 * i) (p := 103 + 3 * i) m14_75 (pLw _) (tLw hi) (Or.inl rfl) ?_
          refine h_ic_ltT (xi := ((s.length : Nat) : Int)) (zi := ((ln i : Nat) : Int)) m14_76 (nI_toInt (by omega)) (nI_toInt (by omega)) (by omega) ?_
          refine g_aload_n m14_81 rfl ?_
          refine h_gfR (c := 103 + 3 * i) (k := 69 + 3 * i) (p := 101 + 3 * i) m14_82 (pLo _) (tLo hi) rfl (le3 (Nat.le_of_ble_eq_true rfl)) ?_
          refine g_iload m14_85 rfl ?_
          refine h_ial (k := 71 + 3 * i) (p := 103 + 3 * i) (j := s.length) m14_87 (pLw _) (tLw hi) (rfl) (by omega) (by omega) (rfl) ?_
          refine g_istore (L2 := [some (.ref (101 + 3 * i)), some (.int (a)), some (.int (b)), some (.int (c)), some (.int (nI (s.length))), some (.int (nI (q))), some (.int (kk)), some (.int (0)), some (.int (m2 (71 + 3 * i) s.length)), o9]) m14_88 rfl rfl ?_
          refine g_iload m14_90 rfl ?_
          refine g_iconst m14_92 ?_
          refine g_iadd (u := nI ((s.length) + 1)) m14_93 (nI_add (s.length) 1) ?_
          refine g_aload_n m14_94 rfl ?_
          refine h_gfR (c := 103 + 3 * i) (k := 69 + 3 * i) (p := 101 + 3 * i) m14_95 (pLo _) (tLo hi) rfl (le3 (Nat.le_of_ble_eq_true rfl)) ?_
          refine h_alen (k := 71 + 3 * i) (p := 103 + 3 * i) m14_98 (pLw _) (tLw hi) (Or.inl rfl) ?_
          refine h_ic_ge (xi := (((s.length) + 1 : Nat) : Int)) (zi := ((ln i : Nat) : Int)) m14_99 (nI_toInt (by omega)) (nI_toInt (by omega)) (fun c17 => ?_) (fun c17 => ?_)
          · skip
            refine g_iconst m14_114 ?_
            refine g_istore (L2 := [some (.ref (101 + 3 * i)), some (.int (a)), some (.int (b)), some (.int (c)), some (.int (nI (s.length))), some (.int (nI (q))), some (.int (kk)), some (.int (0)), some (.int (m2 (71 + 3 * i) s.length)), some (.int (0))]) m14_115 rfl rfl ?_
            refine g_iload m14_117 rfl ?_
            refine gs m14_119 ?_
            refine gwpc (pc' := 502) (lsD (by omega)) ?_
            refine g_aload_n m14_502 rfl ?_
            refine h_gfR (c := 103 + 3 * i) (k := 69 + 3 * i) (p := 101 + 3 * i) m14_503 (pLo _) (tLo hi) rfl (le3 (Nat.le_of_ble_eq_true rfl)) ?_
            refine g_iload m14_506 rfl ?_
            refine g_iload m14_508 rfl ?_
            refine g_sipush m14_510 ?_
            refine g_isub m14_513 rfl ?_
            refine h_ias (k := 71 + 3 * i) (p := 103 + 3 * i) (j := s.length) m14_514 (pLw _) (tLw hi) (rfl) (by omega) (by omega) ?_
            refine gwl (L' := [some (.ref (101 + 3 * i)), some (.int a), some (.int b), some (.int c), some (.int (nI (s.length))), some (.int (nI q)), _, _, _, _]) rfl ?_
            refine g_iinc (L2 := [some (.ref (101 + 3 * i)), some (.int (a)), some (.int (b)), some (.int (c)), some (.int (nI ((s.length) + 1))), some (.int (nI (q))), some (.int (kk)), some (.int (0)), some (.int (m2 (71 + 3 * i) s.length)), some (.int (0))]) m14_515 rfl (nI_1 _) rfl rfl ?_
            refine g_iinc (L2 := [some (.ref (101 + 3 * i)), some (.int (a)), some (.int (b)), some (.int (c)), some (.int (nI ((s.length) + 1))), some (.int (nI (q + 1))), some (.int (kk)), some (.int (0)), some (.int (m2 (71 + 3 * i) s.length)), some (.int (0))]) m14_518 rfl (nI_1 _) rfl rfl ?_
            refine g_goto m14_521 ?_
            rw [ev_n hk0 hk1 hk2 hkn] at hev
            obtain rfl := Option.some.inj hev
            exact ih (q + 1) _ _ _ _ _ _ (by omega) hs2 (by show s.length + 1 ≤ q + 1; omega) (Stk_pushE rfl rfl hst) (EqM_w hE _ _ _)
          · skip
            refine g_aload_n m14_102 rfl ?_
            refine h_gfR (c := 103 + 3 * i) (k := 69 + 3 * i) (p := 101 + 3 * i) m14_103 (pLo _) (tLo hi) rfl (le3 (Nat.le_of_ble_eq_true rfl)) ?_
            refine g_iload m14_106 rfl ?_
            refine g_iconst m14_108 ?_
            refine g_iadd (u := nI ((s.length) + 1)) m14_109 (nI_add (s.length) 1) ?_
            refine h_ial (k := 71 + 3 * i) (p := 103 + 3 * i) (j := (s.length) + 1) m14_110 (pLw _) (tLw hi) (rfl) (by omega) (by omega) (rfl) ?_
            refine g_goto m14_111 ?_
            refine g_istore (L2 := [some (.ref (101 + 3 * i)), some (.int (a)), some (.int (b)), some (.int (c)), some (.int (nI (s.length))), some (.int (nI (q))), some (.int (kk)), some (.int (0)), some (.int (m2 (71 + 3 * i) s.length)), some (.int (m2 (71 + 3 * i) ((s.length) + 1)))]) m14_115 rfl rfl ?_
            refine g_iload m14_117 rfl ?_
            refine gs m14_119 ?_
            refine gwpc (pc' := 502) (lsD (by omega)) ?_
            refine g_aload_n m14_502 rfl ?_
            refine h_gfR (c := 103 + 3 * i) (k := 69 + 3 * i) (p := 101 + 3 * i) m14_503 (pLo _) (tLo hi) rfl (le3 (Nat.le_of_ble_eq_true rfl)) ?_
            refine g_iload m14_506 rfl ?_
            refine g_iload m14_508 rfl ?_
            refine g_sipush m14_510 ?_
            refine g_isub m14_513 rfl ?_
            refine h_ias (k := 71 + 3 * i) (p := 103 + 3 * i) (j := s.length) m14_514 (pLw _) (tLw hi) (rfl) (by omega) (by omega) ?_
            refine gwl (L' := [some (.ref (101 + 3 * i)), some (.int a), some (.int b), some (.int c), some (.int (nI (s.length))), some (.int (nI q)), _, _, _, _]) rfl ?_
            refine g_iinc (L2 := [some (.ref (101 + 3 * i)), some (.int (a)), some (.int (b)), some (.int (c)), some (.int (nI ((s.length) + 1))), some (.int (nI (q))), some (.int (kk)), some (.int (0)), some (.int (m2 (71 + 3 * i) s.length)), some (.int (m2 (71 + 3 * i) ((s.length) + 1)))]) m14_515 rfl (nI_1 _) rfl rfl ?_
            refine g_iinc (L2 := [some (.ref (101 + 3 * i)), some (.int (a)), some (.int (b)), some (.int (c)), some (.int (nI ((s.length) + 1))), some (.int (nI (q + 1))), some (.int (kk)), some (.int (0)), some (.int (m2 (71 + 3 * i) s.length)), some (.int (m2 (71 + 3 * i) ((s.length) + 1)))]) m14_518 rfl (nI_1 _) rfl rfl ?_
            refine g_goto m14_521 ?_
            rw [ev_n hk0 hk1 hk2 hkn] at hev
            obtain rfl := Option.some.inj hev
            exact ih (q + 1) _ _ _ _ _ _ (by omega) hs2 (by show s.length + 1 ≤ q + 1; omega) (Stk_pushE rfl rfl hst) (EqM_w hE _ _ _)
        · skip
          refine g_iload m14_33 rfl ?_
          refine g_iconst m14_35 ?_
          refine h_ic_geF (xi := kk.toInt) (zi := 3) m14_36 rfl rfl (by omega) ?_
          refine g_iconst m14_39 ?_
          refine g_goto m14_40 ?_
          refine g_istore (L2 := [some (.ref (101 + 3 * i)), some (.int (a)), some (.int (b)), some (.int (c)), some (.int (nI (s.length))), some (.int (nI (q))), some (.int (kk)), some (.int (0)), o8, o9]) m14_55 rfl rfl ?_
          refine g_iload m14_57 rfl ?_
          refine g_iload m14_59 rfl ?_
          refine g_isub (u := nI (s.length)) m14_61 (by show nI s.length - nI 0 = nI s.length; rw [pk_sub (Nat.zero_le _), Nat.sub_zero]) ?_
          refine g_istore (L2 := [some (.ref (101 + 3 * i)), some (.int (a)), some (.int (b)), some (.int (c)), some (.int (nI (s.length))), some (.int (nI (q))), some (.int (kk)), some (.int (0)), o8, o9]) m14_62 rfl rfl ?_
          refine g_iload m14_64 rfl ?_
          refine h_if_ltF (xi := ((s.length : Nat) : Int)) (zi := 0) m14_66 (nI_toInt (by omega)) rfl (by omega) ?_
          refine g_iload m14_69 rfl ?_
          refine g_aload_n m14_71 rfl ?_
          refine h_gfR (c := 103 + 3 * i) (k := 69 + 3 * i) (p := 101 + 3 * i) m14_72 (pLo _) (tLo hi) rfl (le3 (Nat.le_of_ble_eq_true rfl)) ?_
          refine h_alen (k := 71 + 3 * i) (p := 103 + 3 * i) m14_75 (pLw _) (tLw hi) (Or.inl rfl) ?_
          refine h_ic_ltT (xi := ((s.length : Nat) : Int)) (zi := ((ln i : Nat) : Int)) m14_76 (nI_toInt (by omega)) (nI_toInt (by omega)) (by omega) ?_
          refine g_aload_n m14_81 rfl ?_
          refine h_gfR (c := 103 + 3 * i) (k := 69 + 3 * i) (p := 101 + 3 * i) m14_82 (pLo _) (tLo hi) rfl (le3 (Nat.le_of_ble_eq_true rfl)) ?_
          refine g_iload m14_85 rfl ?_
          refine h_ial (k := 71 + 3 * i) (p := 103 + 3 * i) (j := s.length) m14_87 (pLw _) (tLw hi) (rfl) (by omega) (by omega) (rfl) ?_
          refine g_istore (L2 := [some (.ref (101 + 3 * i)), some (.int (a)), some (.int (b)), some (.int (c)), some (.int (nI (s.length))), some (.int (nI (q))), some (.int (kk)), some (.int (0)), some (.int (m2 (71 + 3 * i) s.length)), o9]) m14_88 rfl rfl ?_
          refine g_iload m14_90 rfl ?_
          refine g_iconst m14_92 ?_
          refine g_iadd (u := nI ((s.length) + 1)) m14_93 (nI_add (s.length) 1) ?_
          refine g_aload_n m14_94 rfl ?_
          refine h_gfR (c := 103 + 3 * i) (k := 69 + 3 * i) (p := 101 + 3 * i) m14_95 (pLo _) (tLo hi) rfl (le3 (Nat.le_of_ble_eq_true rfl)) ?_
          refine h_alen (k := 71 + 3 * i) (p := 103 + 3 * i) m14_98 (pLw _) (tLw hi) (Or.inl rfl) ?_
          refine h_ic_ge (xi := (((s.length) + 1 : Nat) : Int)) (zi := ((ln i : Nat) : Int)) m14_99 (nI_toInt (by omega)) (nI_toInt (by omega)) (fun c18 => ?_) (fun c18 => ?_)
          · skip
            refine g_iconst m14_114 ?_
            refine g_istore (L2 := [some (.ref (101 + 3 * i)), some (.int (a)), some (.int (b)), some (.int (c)), some (.int (nI (s.length))), some (.int (nI (q))), some (.int (kk)), some (.int (0)), some (.int (m2 (71 + 3 * i) s.length)), some (.int (0))]) m14_115 rfl rfl ?_
            refine g_iload m14_117 rfl ?_
            refine gs m14_119 ?_
            refine gwpc (pc' := 502) (lsD (by omega)) ?_
            refine g_aload_n m14_502 rfl ?_
            refine h_gfR (c := 103 + 3 * i) (k := 69 + 3 * i) (p := 101 + 3 * i) m14_503 (pLo _) (tLo hi) rfl (le3 (Nat.le_of_ble_eq_true rfl)) ?_
            refine g_iload m14_506 rfl ?_
            refine g_iload m14_508 rfl ?_
            refine g_sipush m14_510 ?_
            refine g_isub m14_513 rfl ?_
            refine h_ias (k := 71 + 3 * i) (p := 103 + 3 * i) (j := s.length) m14_514 (pLw _) (tLw hi) (rfl) (by omega) (by omega) ?_
            refine gwl (L' := [some (.ref (101 + 3 * i)), some (.int a), some (.int b), some (.int c), some (.int (nI (s.length))), some (.int (nI q)), _, _, _, _]) rfl ?_
            refine g_iinc (L2 := [some (.ref (101 + 3 * i)), some (.int (a)), some (.int (b)), some (.int (c)), some (.int (nI ((s.length) + 1))), some (.int (nI (q))), some (.int (kk)), some (.int (0)), some (.int (m2 (71 + 3 * i) s.length)), some (.int (0))]) m14_515 rfl (nI_1 _) rfl rfl ?_
            refine g_iinc (L2 := [some (.ref (101 + 3 * i)), some (.int (a)), some (.int (b)), some (.int (c)), some (.int (nI ((s.length) + 1))), some (.int (nI (q + 1))), some (.int (kk)), some (.int (0)), some (.int (m2 (71 + 3 * i) s.length)), some (.int (0))]) m14_518 rfl (nI_1 _) rfl rfl ?_
            refine g_goto m14_521 ?_
            rw [ev_n hk0 hk1 hk2 hkn] at hev
            obtain rfl := Option.some.inj hev
            exact ih (q + 1) _ _ _ _ _ _ (by omega) hs2 (by show s.length + 1 ≤ q + 1; omega) (Stk_pushE rfl rfl hst) (EqM_w hE _ _ _)
          · skip
            refine g_aload_n m14_102 rfl ?_
            refine h_gfR (c := 103 + 3 * i) (k := 69 + 3 * i) (p := 101 + 3 * i) m14_103 (pLo _) (tLo hi) rfl (le3 (Nat.le_of_ble_eq_true rfl)) ?_
            refine g_iload m14_106 rfl ?_
            refine g_iconst m14_108 ?_
            refine g_iadd (u := nI ((s.length) + 1)) m14_109 (nI_add (s.length) 1) ?_
            refine h_ial (k := 71 + 3 * i) (p := 103 + 3 * i) (j := (s.length) + 1) m14_110 (pLw _) (tLw hi) (rfl) (by omega) (by omega) (rfl) ?_
            refine g_goto m14_111 ?_
            refine g_istore (L2 := [some (.ref (101 + 3 * i)), some (.int (a)), some (.int (b)), some (.int (c)), some (.int (nI (s.length))), some (.int (nI (q))), some (.int (kk)), some (.int (0)), some (.int (m2 (71 + 3 * i) s.length)), some (.int (m2 (71 + 3 * i) ((s.length) + 1)))]) m14_115 rfl rfl ?_
            refine g_iload m14_117 rfl ?_
            refine gs m14_119 ?_
            refine gwpc (pc' := 502) (lsD (by omega)) ?_
            refine g_aload_n m14_502 rfl ?_
            refine h_gfR (c := 103 + 3 * i) (k := 69 + 3 * i) (p := 101 + 3 * i) m14_503 (pLo _) (tLo hi) rfl (le3 (Nat.le_of_ble_eq_true rfl)) ?_
            refine g_iload m14_506 rfl ?_
            refine g_iload m14_508 rfl ?_
            refine g_sipush m14_510 ?_
            refine g_isub m14_513 rfl ?_
            refine h_ias (k := 71 + 3 * i) (p := 103 + 3 * i) (j := s.length) m14_514 (pLw _) (tLw hi) (rfl) (by omega) (by omega) ?_
            refine gwl (L' := [some (.ref (101 + 3 * i)), some (.int a), some (.int b), some (.int c), some (.int (nI (s.length))), some (.int (nI q)), _, _, _, _]) rfl ?_
            refine g_iinc (L2 := [some (.ref (101 + 3 * i)), some (.int (a)), some (.int (b)), some (.int (c)), some (.int (nI ((s.length) + 1))), some (.int (nI (q))), some (.int (kk)), some (.int (0)), some (.int (m2 (71 + 3 * i) s.length)), some (.int (m2 (71 + 3 * i) ((s.length) + 1)))]) m14_515 rfl (nI_1 _) rfl rfl ?_
            refine g_iinc (L2 := [some (.ref (101 + 3 * i)), some (.int (a)), some (.int (b)), some (.int (c)), some (.int (nI ((s.length) + 1))), some (.int (nI (q + 1))), some (.int (kk)), some (.int (0)), some (.int (m2 (71 + 3 * i) s.length)), some (.int (m2 (71 + 3 * i) ((s.length) + 1)))]) m14_518 rfl (nI_1 _) rfl rfl ?_
            refine g_goto m14_521 ?_
            rw [ev_n hk0 hk1 hk2 hkn] at hev
            obtain rfl := Option.some.inj hev
            exact ih (q + 1) _ _ _ _ _ _ (by omega) hs2 (by show s.length + 1 ≤ q + 1; omega) (Stk_pushE rfl rfl hst) (EqM_w hE _ _ _)
      exfalso
      rw [ev_x hk0 hk1 hk2 hkn hk33 hk43 hk45 hk42 hk47 hk37 hk60 hk61 hk62 hk38 hk124] at hev
      cases hev
  exact key (ln i) 0 [] m none none none none (by omega) (by rw [List.drop_zero]; exact hv []) (Nat.le_refl _) trivial EqM.rf
end
end
