/-! WHAT THE CALLS GIVE, in numbers: faces, steps, sets -/
def heldF (v most : Int32) : Int32 := if v.toInt < 0 then 0 else if most.toInt < v.toInt then most else v
abbrev LF : Type := Int32 → Int32 → Int32 → Int32
/-- a table's words: 0 the object's own, 1 fill, 2 kind, 3 m, 4 hunger, 5 sham, 6 had, 7 gone, 8 faces -/
def vw (m : MW) (t : Nat) : MW := fun j => m (j + 1 + 9 * t)
def faceV (v : Int32) (X : MW) (i : Nat) : Int32 :=
  if X 2 i = 1 then v + X 5 i + X 3 i
  else if X 2 i = 2 then v / 2 + X 5 i
  else if X 2 i = 3 then v + X 5 i - X 4 i / 2
  else if X 2 i = 4 then v + X 5 i + X 3 i - 20
  else if X 2 i = 5 then v / 2 + X 5 i + (if 0 < (X 6 i).toInt then 9 else 0)
  else if X 2 i = 6 then v + 2 * X 5 i - X 4 i / 2
  else v + X 5 i
def faceF (LK : LF) (X : MW) (i : Nat) : Int32 := faceV (LK (X 4 i) (X 6 i) (X 0 9 - X 0 9 / 16 * 16)) X i
def growsF (X : MW) (i : Nat) : Int32 :=
  if X 2 i = 1 ∨ X 2 i = 4 then 0 else if X 2 i = 2 ∨ X 2 i = 5 then 2 else if X 2 i = 3 ∨ X 2 i = 6 then 1 + (X 3 i - X 3 i / 3 * 3) else 1
def cntF (p : Nat → Bool) : Nat → Nat
  | 0 => 0
  | n + 1 => cntF p n + (if p n = true then 1 else 0)
def bitsF (p : Nat → Bool) : Nat → Nat
  | 0 => 0
  | n + 1 => bitsF p n + (if p n = true then 2 ^ n else 0)
def isAhead (F G : Nat → Int32) (i o : Nat) : Bool := decide (((F i).toInt < (F o).toInt ∨ ((F o).toInt = (F i).toInt ∧ o < i)) ∧ (G o).toInt = 0)
def aheadF (F G : Nat → Int32) (n i : Nat) : Nat := cntF (isAhead F G i) n
def isServed (F G : Nat → Int32) (n : Nat) (W : Int32) (i : Nat) : Bool := decide ((G i).toInt = 0 ∧ (aheadF F G n i : Int) < W.toInt)
def nOf (X : MW) : Nat := (X 0 10).toNatClampNeg
def svF (LK : LF) (X : MW) (i : Nat) : Bool := isServed (faceF LK X) (X 7) (nOf X) (X 0 8) i
def setF (LK : LF) (X : MW) : Nat := bitsF (svF LK X) (nOf X)
def hungF (sv : Bool) (X : MW) (i : Nat) : Int32 := if sv = true then heldF (X 4 i - X 1 ((X 6 i).toNatClampNeg % 8)) 99 else heldF (X 4 i + growsF X i) 99
def hadF (sv : Bool) (X : MW) (i : Nat) : Int32 := if sv = true then heldF (X 6 i + 1) 99 else X 6 i
def ateF (sv : Bool) (X : MW) (i : Nat) : MW := upm (upm X 4 i (hungF sv X i)) 6 i (hadF sv X i)
def goneF (LK BL : LF) (X : MW) (i : Nat) : Int32 := if (BL (X 4 i) (faceF LK X i) (X 6 i)).toInt = 0 then 0 else 1
/-- one diner's part of a step -/
def passF (LK BL : LF) (sv : Bool) (X : MW) (i : Nat) : MW := upm (ateF sv X i) 7 i (goneF LK BL (ateF sv X i) i)
/-- the first k diners' parts, those who were served told ahead -/
def passN (LK BL : LF) (sv : Nat → Bool) (X : MW) : Nat → MW
  | 0 => X
  | k + 1 => if (X 7 k).toInt = 0 then passF LK BL (sv k) (passN LK BL sv X k) k else passN LK BL sv X k
def stepF (LK BL : LF) (X : MW) : MW := upm (passN LK BL (svF LK X) X (nOf X)) 0 9 (X 0 9 + 1)
def stepN (LK BL : LF) (X : MW) : Nat → MW
  | 0 => X
  | k + 1 => stepF LK BL (stepN LK BL X k)
def leI (x : Int32) (b : Nat) : Prop := ∃ c : Nat, c ≤ b ∧ x = nI c
/-- a table's words are in their bounds -/
def WF (X : MW) : Prop := leI (X 0 10) 8 ∧ (∃ w, 1 ≤ w ∧ w ≤ 4 ∧ X 0 8 = nI w) ∧ ∀ i, i < 8 → leI (X 1 i) 30 ∧ leI (X 2 i) 6 ∧ leI (X 3 i) 9 ∧ leI (X 4 i) 99 ∧ leI (X 5 i) 9 ∧ leI (X 6 i) 99 ∧ (X 7 i = 0 ∨ X 7 i = 1)
/-- a law's codes worked out over a stack -/
def evI (a b c k : Int32) (s : List Int32) : Option (List Int32) :=
  if k = 0 then some (a :: s) else if k = 1 then some (b :: s) else if k = 2 then some (c :: s)
  else if 1000 ≤ k.toInt ∨ k.toInt < 0 then some ((k - 1000) :: s)
  else if k = 33 then (match s with
    | p :: r => some ((if p.toInt = 0 then 1 else 0) :: r)
    | _ => none)
  else match s with
    | q :: p :: r => if k = 43 then some ((p + q) :: r) else if k = 45 then some ((p - q) :: r) else if k = 42 then some ((p * q) :: r)
      else if k = 47 then some ((if q.toInt = 0 then 0 else p / q) :: r) else if k = 37 then some ((if q.toInt = 0 then 0 else p - p / q * q) :: r)
      else if k = 60 then some ((if p.toInt < q.toInt then 1 else 0) :: r) else if k = 61 then some ((if p.toInt = q.toInt then 1 else 0) :: r) else if k = 62 then some ((if q.toInt < p.toInt then 1 else 0) :: r)
      else if k = 38 then some ((if p.toInt ≠ 0 ∧ q.toInt ≠ 0 then 1 else 0) :: r) else if k = 124 then some ((if p.toInt ≠ 0 ∨ q.toInt ≠ 0 then 1 else 0) :: r) else none
    | _ => none
section
variable {a b c p q : Int32} {s r : List Int32}
theorem ev_0 : evI a b c 0 s = some (a :: s) := rfl
theorem ev_1 : evI a b c 1 s = some (b :: s) := rfl
theorem ev_2 : evI a b c 2 s = some (c :: s) := rfl
theorem ev_n {k : Int32} (h0 : ¬ k = 0) (h1 : ¬ k = 1) (h2 : ¬ k = 2) (h : 1000 ≤ k.toInt ∨ k.toInt < 0) : evI a b c k s = some ((k - 1000) :: s) := by
  unfold evI
  rw [if_neg h0, if_neg h1, if_neg h2, if_pos h]
theorem ev_33 : evI a b c 33 (p :: r) = some ((if p.toInt = 0 then 1 else 0) :: r) := rfl
theorem ev_43 : evI a b c 43 (q :: p :: r) = some ((p + q) :: r) := rfl
theorem ev_45 : evI a b c 45 (q :: p :: r) = some ((p - q) :: r) := rfl
theorem ev_42 : evI a b c 42 (q :: p :: r) = some ((p * q) :: r) := rfl
theorem ev_47 : evI a b c 47 (q :: p :: r) = some ((if q.toInt = 0 then 0 else p / q) :: r) := rfl
theorem ev_37 : evI a b c 37 (q :: p :: r) = some ((if q.toInt = 0 then 0 else p - p / q * q) :: r) := rfl
theorem ev_60 : evI a b c 60 (q :: p :: r) = some ((if p.toInt < q.toInt then 1 else 0) :: r) := rfl
theorem ev_61 : evI a b c 61 (q :: p :: r) = some ((if p.toInt = q.toInt then 1 else 0) :: r) := rfl
theorem ev_62 : evI a b c 62 (q :: p :: r) = some ((if q.toInt < p.toInt then 1 else 0) :: r) := rfl
theorem ev_38 : evI a b c 38 (q :: p :: r) = some ((if p.toInt ≠ 0 ∧ q.toInt ≠ 0 then 1 else 0) :: r) := rfl
theorem ev_124 : evI a b c 124 (q :: p :: r) = some ((if p.toInt ≠ 0 ∨ q.toInt ≠ 0 then 1 else 0) :: r) := rfl
theorem ev_x {k : Int32} (h0 : ¬ k = 0) (h1 : ¬ k = 1) (h2 : ¬ k = 2) (h : ¬ (1000 ≤ k.toInt ∨ k.toInt < 0)) (h33 : ¬ k = 33) (h43 : ¬ k = 43) (h45 : ¬ k = 45) (h42 : ¬ k = 42) (h47 : ¬ k = 47) (h37 : ¬ k = 37) (h60 : ¬ k = 60) (h61 : ¬ k = 61) (h62 : ¬ k = 62) (h38 : ¬ k = 38) (h124 : ¬ k = 124) : evI a b c k s = none := by
  unfold evI
  rw [if_neg h0, if_neg h1, if_neg h2, if_neg h, if_neg h33]
  split
  · rw [if_neg h43, if_neg h45, if_neg h42, if_neg h47, if_neg h37, if_neg h60, if_neg h61, if_neg h62, if_neg h38, if_neg h124]
  · rfl
end
def evS (a b c : Int32) : List Int32 → List Int32 → Option (List Int32)
  | [], s => some s
  | k :: ks, s => (evI a b c k s).bind (evS a b c ks)
def codL (m : MW) (ln : Nat → Nat) (i : Nat) : List Int32 := (List.range (ln i)).map (m (70 + 3 * i))
/-- codes that give one number, whatever stands below -/
def CodeOk (cs : List Int32) : Prop := ∀ a b c, ∃ v, ∀ s, evS a b c cs s = some (v :: s)
def valL (cs : List Int32) (a b c : Int32) : Int32 := ((evS a b c cs []).getD []).headD 0
def lval (m : MW) (ln : Nat → Nat) (x : Int32) : LF := valL (codL m ln (x.toNatClampNeg - 1))
def lkF (m : MW) (ln : Nat → Nat) (x : Int32) : LF := fun h c s => heldF (if x = 0 then c + 9 - h / 9 else lval m ln x h c s) 99
def blF (m : MW) (ln : Nat → Nat) (x : Int32) : LF := fun h f c => if x = 0 then 0 else heldF (lval m ln x h f c) 1
/-- the laws' codes are well made; a law's number in a table is 0 or one of them -/
def LawsOk (m : MW) (ln : Nat → Nat) (N : Nat) : Prop := N ≤ 600 ∧ ∀ i, i < N → ln i ≤ 50 ∧ CodeOk (codL m ln i)
def LawIx (N : Nat) (x : Int32) : Prop := x = 0 ∨ ∃ i, i < N ∧ x = nI (i + 1)
def minor (k j : Nat) : Prop := (69 ≤ k ∧ (k - 69) % 3 = 2) ∨ (k = 57 ∧ 7 ≤ j ∧ j ≤ 14)
/-- alike but for what is only written to be read at once: the laws' worths, the reference's walker -/
def EqM (m m2 : MW) : Prop := ∀ k j, ¬ minor k j → m2 k j = m k j
theorem EqM.rf {m : MW} : EqM m m := fun _ _ _ => rfl
theorem EqM.tr {m m2 m3 : MW} (h : EqM m m2) (h2 : EqM m2 m3) : EqM m m3 := fun k j q => (h2 k j q).trans (h k j q)
theorem EqM.up {m m2 : MW} (h : EqM m m2) (k j : Nat) (x : Int32) : EqM (upm m k j x) (upm m2 k j x) := by
  intro k2 j2 q
  unfold upm
  by_cases e : k2 = k ∧ j2 = j
  · rw [if_pos e, if_pos e]
  · rw [if_neg e, if_neg e, h k2 j2 q]
theorem EqM.at {m m2 : MW} (h : EqM m m2) {k : Nat} (j : Nat) (hk : k < 57) : m2 k j = m k j := h k j (fun q => by rcases q with q | q <;> omega)
theorem EqM.at2 {m m2 : MW} (h : EqM m m2) {k : Nat} (j : Nat) (hk : k < 69) (h7 : k ≠ 57) : m2 k j = m k j := h k j (fun q => by rcases q with q | q <;> omega)
theorem EqM.fld {m m2 : MW} (h : EqM m m2) {j : Nat} (hj : j < 7 ∨ 14 < j) : m2 57 j = m 57 j := h 57 j (fun q => by rcases q with q | q <;> omega)
theorem EqM.vw {m m2 : MW} (h : EqM m m2) {t : Nat} (ht : t < 4) {j : Nat} (hj : j < 9) (i : Nat) : vw m2 t j i = vw m t j i := h.at i (by omega)
theorem EqM.cod {m m2 : MW} (h : EqM m m2) (ln : Nat → Nat) (i : Nat) : codL m2 ln i = codL m ln i := by
  unfold codL
  apply List.map_congr_left
  intro j _
  exact h _ _ (fun q => by rcases q with q | q <;> omega)
theorem EqM.lk {m m2 : MW} (h : EqM m m2) (ln : Nat → Nat) (x : Int32) : lkF m2 ln x = lkF m ln x := by
  unfold lkF lval
  rw [h.cod]
theorem EqM.bl {m m2 : MW} (h : EqM m m2) (ln : Nat → Nat) (x : Int32) : blF m2 ln x = blF m ln x := by
  unfold blF lval
  rw [h.cod]
theorem EqM.laws {m m2 : MW} (h : EqM m m2) {ln : Nat → Nat} {N : Nat} (q : LawsOk m ln N) : LawsOk m2 ln N := ⟨q.1, fun i hi => by
  rw [h.cod]
  exact q.2 i hi⟩
theorem faceF_c {LK : LF} {X Y : MW} {i : Nat} (h : ∀ j, 2 ≤ j → j ≤ 6 → Y j i = X j i) (h0 : Y 0 9 = X 0 9) : faceF LK Y i = faceF LK X i := by
  unfold faceF faceV
  rw [h 2 (by omega) (by omega), h 3 (by omega) (by omega), h 4 (by omega) (by omega), h 5 (by omega) (by omega), h 6 (by omega) (by omega), h0]
/-- table t put in place: the words X, all else as m -/
def putT (m : MW) (t : Nat) (X : MW) : MW := fun k j => if 1 + 9 * t ≤ k ∧ k < 10 + 9 * t then X (k - (1 + 9 * t)) j else m k j
def AtX (m : MW) (t : Nat) (X m2 : MW) : Prop := EqM (putT m t X) m2
theorem AtX.rd {m : MW} {t : Nat} {X m2 : MW} (h : AtX m t X m2) (ht : t < 4) {j i : Nat} (hj : j < 9) : m2 (j + 1 + 9 * t) i = X j i := by
  rw [EqM.at h i (by omega)]
  unfold putT
  rw [if_pos (by omega), show j + 1 + 9 * t - (1 + 9 * t) = j by omega]
theorem AtX.up {m : MW} {t : Nat} {X m2 : MW} (h : AtX m t X m2) (ht : t < 4) {j : Nat} (hj : j < 9) (i : Nat) (x : Int32) : AtX m t (upm X j i x) (upm m2 (j + 1 + 9 * t) i x) := by
  have e : putT m t (upm X j i x) = upm (putT m t X) (j + 1 + 9 * t) i x := by
    funext k2 j2
    unfold putT upm
    by_cases h1 : 1 + 9 * t ≤ k2 ∧ k2 < 10 + 9 * t
    · simp only [h1, and_self, if_true]
      by_cases h2 : k2 = j + 1 + 9 * t
      · subst h2
        simp [show j + 1 + 9 * t - (1 + 9 * t) = j by omega]
      · have h3 : ¬ k2 - (1 + 9 * t) = j := by omega
        simp [h2, h3]
    · have h2 : ¬ k2 = j + 1 + 9 * t := by omega
      simp [h1, h2]
  unfold AtX
  rw [e]
  exact EqM.up h _ _ _
theorem AtX.self (m : MW) (t : Nat) : AtX m t (vw m t) m := by
  intro k j q
  unfold putT vw
  by_cases h1 : 1 + 9 * t ≤ k ∧ k < 10 + 9 * t
  · rw [if_pos h1, show k - (1 + 9 * t) + 1 + 9 * t = k by omega]
  · rw [if_neg h1]
theorem AtX.eqm {m : MW} {t : Nat} {X m2 m3 : MW} (h : AtX m t X m2) (h2 : EqM m2 m3) : AtX m t X m3 := EqM.tr h h2
theorem AtX.c {m : MW} {t : Nat} {X Y m2 : MW} (h : AtX m t X m2) (e : ∀ j i, j < 9 → Y j i = X j i) : AtX m t Y m2 := by
  intro k j q
  rw [h k j q]
  unfold putT
  by_cases h1 : 1 + 9 * t ≤ k ∧ k < 10 + 9 * t
  · rw [if_pos h1, if_pos h1, e _ _ (by omega)]
  · rw [if_neg h1, if_neg h1]
theorem AtX.out {m : MW} {t : Nat} {X m2 : MW} (h : AtX m t X m2) {k j : Nat} (hk : ¬ (1 + 9 * t ≤ k ∧ k < 10 + 9 * t)) (hq : ¬ minor k j) : m2 k j = m k j := by
  rw [h k j hq]
  unfold putT
  rw [if_neg hk]
theorem AtX.cod {m : MW} {t : Nat} {X m2 : MW} (h : AtX m t X m2) (ht : t < 4) (ln : Nat → Nat) (i : Nat) : codL m2 ln i = codL m ln i := by
  unfold codL
  apply List.map_congr_left
  intro j _
  exact h.out (by omega) (fun q => by rcases q with q | q <;> omega)
theorem lawV_ix {x : Int32} {i : Nat} (hx : x = nI (i + 1)) (hi : i < 2 ^ 30) : lawV x = .ref (101 + 3 * i) ∧ ¬ x = 0 ∧ x.toNatClampNeg - 1 = i := by
  subst hx
  have h1 : (nI (i + 1)).toNatClampNeg = i + 1 := nI_clamp (by omega)
  have h2 : ¬ nI (i + 1) = 0 := nI_ne0 (by omega) (by omega)
  refine ⟨?_, h2, by omega⟩
  rw [lawV_ne h2, h1]
  exact congrArg Value.ref (show 98 + 3 * (i + 1) = 101 + 3 * i by omega)
theorem fk_0 {v : Int32} {X : MW} {i : Nat} (h : X 2 i = nI 0) : faceV v X i = v + X 5 i := by
  unfold faceV
  rw [h]
  rfl
theorem fk_1 {v : Int32} {X : MW} {i : Nat} (h : X 2 i = nI 1) : faceV v X i = v + X 5 i + X 3 i := by
  unfold faceV
  rw [h]
  rfl
theorem fk_2 {v : Int32} {X : MW} {i : Nat} (h : X 2 i = nI 2) : faceV v X i = v / 2 + X 5 i := by
  unfold faceV
  rw [h]
  rfl
theorem fk_3 {v : Int32} {X : MW} {i : Nat} (h : X 2 i = nI 3) : faceV v X i = v + X 5 i - X 4 i / 2 := by
  unfold faceV
  rw [h]
  rfl
theorem fk_4 {v : Int32} {X : MW} {i : Nat} (h : X 2 i = nI 4) : faceV v X i = v + X 5 i + X 3 i - 20 := by
  unfold faceV
  rw [h]
  rfl
theorem fk_5 {v : Int32} {X : MW} {i : Nat} (h : X 2 i = nI 5) : faceV v X i = v / 2 + X 5 i + (if 0 < (X 6 i).toInt then 9 else 0) := by
  unfold faceV
  rw [h]
  rfl
theorem fk_6 {v : Int32} {X : MW} {i : Nat} (h : X 2 i = nI 6) : faceV v X i = v + 2 * X 5 i - X 4 i / 2 := by
  unfold faceV
  rw [h]
  rfl
theorem gk {X : MW} {i k : Nat} (h : X 2 i = nI k) (hk : k ≤ 6) : growsF X i = if k = 1 ∨ k = 4 then 0 else if k = 2 ∨ k = 5 then 2 else if k = 3 ∨ k = 6 then 1 + (X 3 i - X 3 i / 3 * 3) else 1 := by
  unfold growsF
  rw [h]
  rcases (show k = 0 ∨ k = 1 ∨ k = 2 ∨ k = 3 ∨ k = 4 ∨ k = 5 ∨ k = 6 by omega) with rfl | rfl | rfl | rfl | rfl | rfl | rfl <;> rfl
def Eq8 (X Y : MW) : Prop := ∀ j, j < 8 → ∀ i, Y j i = X j i
theorem Eq8.rf {X : MW} : Eq8 X X := fun _ _ _ => rfl
theorem Eq8.tr {X Y Z : MW} (h : Eq8 X Y) (h2 : Eq8 Y Z) : Eq8 X Z := fun j hj i => (h2 j hj i).trans (h j hj i)
theorem Eq8.up {X Y : MW} (h : Eq8 X Y) (j i : Nat) (x : Int32) : Eq8 (upm X j i x) (upm Y j i x) := by
  intro j2 h2 i2
  unfold upm
  by_cases e : j2 = j ∧ i2 = i
  · rw [if_pos e, if_pos e]
  · rw [if_neg e, if_neg e, h j2 h2 i2]
theorem WF_c {X Y : MW} (h : Eq8 X Y) (w : WF X) : WF Y := by
  refine ⟨?_, ?_, fun i hi => ?_⟩
  · rw [h 0 (by decide)]
    exact w.1
  · rw [h 0 (by decide)]
    exact w.2.1
  · rw [h 1 (by decide), h 2 (by decide), h 3 (by decide), h 4 (by decide), h 5 (by decide), h 6 (by decide), h 7 (by decide)]
    exact w.2.2 i hi
theorem max_h {v : Int32} (h : v.toInt ≤ 99) : (if (0 : Int32) < v then v else 0) = heldF v 99 := by
  have e0 : (0 : Int32).toInt = 0 := rfl
  have e9 : (99 : Int32).toInt = 99 := rfl
  by_cases h0 : v.toInt < 0
  · have e : heldF v 99 = 0 := by
      unfold heldF
      rw [if_pos h0]
    rw [e]
    exact if_neg (fun q => by have := (lt_k e0 rfl).mp q; omega)
  · have e : heldF v 99 = v := by
      unfold heldF
      rw [if_neg h0, if_neg (by omega)]
    rw [e]
    by_cases h1 : (0 : Int32) < v
    · exact if_pos h1
    · rw [if_neg h1]
      apply Int32.toInt_inj.mp
      have h2 : ¬ 0 < v.toInt := fun q => h1 ((lt_k e0 rfl).mpr q)
      rw [e0]
      omega
theorem min_h {v : Int32} (h : 0 ≤ v.toInt) : (if v < 99 then v else 99) = heldF v 99 := by
  have e9 : (99 : Int32).toInt = 99 := rfl
  by_cases h1 : v < 99
  · have h2 := (lt_k rfl e9).mp h1
    have e : heldF v 99 = v := by
      unfold heldF
      rw [if_neg (by omega), if_neg (by omega)]
    rw [e]
    exact if_pos h1
  · have h2 : ¬ v.toInt < 99 := fun q => h1 ((lt_k rfl e9).mpr q)
    rw [if_neg h1]
    unfold heldF
    rw [if_neg (by omega)]
    by_cases h3 : (99 : Int32).toInt < v.toInt
    · rw [if_pos h3]
    · rw [if_neg h3]
      apply Int32.toInt_inj.mp
      omega
theorem leI_t {x : Int32} {b : Nat} (h : leI x b) (hb : b < 1000) : 0 ≤ x.toInt ∧ x.toInt ≤ b := by
  obtain ⟨c, hc, rfl⟩ := h
  rw [nI_toInt (by omega)]
  omega
theorem leI_of {x : Int32} {b : Nat} (h0 : 0 ≤ x.toInt) (h1 : x.toInt ≤ b) : leI x b := by
  obtain ⟨j, ⟨_, h2⟩, h3⟩ := nat_of (x := x) (lo := 0) (hi := b) (by omega) h1
  exact ⟨j, h2, h3⟩
